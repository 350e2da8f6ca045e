theorem mr_bd {zs sc li kp : Nat → Int32} {ds : Nat → Int64} {as bs cs : Nat → Int32} (h : ax3k zs sc li) (hk : kpok kp) (hR : MRz zs sc li ds as bs cs) : ∀ k, k < 500 → 0 ≤ (mlo zs sc li kp as bs cs k).toInt ∧ (mlo zs sc li kp as bs cs k).toInt ≤ 1000000000 := by
  obtain ⟨E, hE, hA⟩ := hR
  intro k h5
  obtain ⟨h1, h2, h3, h4⟩ := hA k h5
  rw [mlo_eq h hE h5 h1 h2 h3]
  exact lou_bd h hE hk h5
theorem en_end {L : Nat → Int64} (h : ∀ i, i < 500 → 0 ≤ (L i).toInt ∧ (L i).toInt ≤ 1000000000) {th : Int32} (ht : wi th 0 1000) : ¬ j_sum L 0 500 * 1000 < j_sum L 0 500 * th.toInt64 := by
  have b := js_bd h 500 (Nat.le_refl _)
  have t1 := ht.1
  have t2 := ht.2
  have z0 : (0 : Int32).toInt = 0 := rfl
  have z1 : (1000 : Int32).toInt = 1000 := rfl
  have z2 : (1000 : Int64).toInt = 1000 := rfl
  rw [Int32.le_iff_toInt_le] at t1 t2
  generalize j_sum L 0 500 = X at *
  have p0 : 0 ≤ X.toInt * th.toInt := Int.mul_nonneg b.1 (by omega)
  have p1 : X.toInt * th.toInt ≤ X.toInt * 1000 := Int.mul_le_mul_of_nonneg_left (by omega) b.1
  rw [pu_lt, l_mul (by rw [z2]; omega) (by rw [z2]; omega), l_mul (by rw [i_l]; omega) (by rw [i_l]; omega), z2, i_l]
  omega
theorem en_i {L : Nat → Int64} {due y : Int64} {i : Nat} (hend : ¬ j_sum L 0 500 * 1000 < due) (hy : y = j_sum L 0 (i + 1)) (hc : ¬ due ≤ y * 1000) (hi : i < 500) : i < 499 := by
  by_cases q : i = 499
  · subst q
    exact absurd (pu_nle (by rw [← hy]; exact hc)) hend
  · omega
theorem gc_00 : j_gcd 1000 0 0 = 0 := gc_0 0 1000
def m_early (L D : Nat → Int64) (d : Int64) (part : Int32) : Int64 :=
  if j_sum L 0 500 = 0 then part.toInt64 else if part = 0 then j_sum L 0 (j_cu D d 500 0) / j_gcd 1000 (j_sum L 0 500) (j_sum L 0 (j_cu D d 500 0)) else j_sum L 0 500 / j_gcd 1000 (j_sum L 0 500) (j_sum L 0 (j_cu D d 500 0))
theorem me_0 {L D : Nat → Int64} {d : Int64} {part : Int32} (h : j_sum L 0 500 = 0) : part.toInt64 = m_early L D d part := by
  unfold m_early; rw [if_pos h]
theorem me_1 {L D : Nat → Int64} {d : Int64} {part : Int32} (h : ¬ j_sum L 0 500 = 0) (h1 : part = 0) : j_sum L 0 (j_cu D d 500 0) / j_gcd 1000 (j_sum L 0 500) (j_sum L 0 (j_cu D d 500 0)) = m_early L D d part := by
  unfold m_early; rw [if_neg h, if_pos h1]
theorem me_2 {L D : Nat → Int64} {d : Int64} {part : Int32} (h : ¬ j_sum L 0 500 = 0) (h1 : ¬ part = 0) : j_sum L 0 500 / j_gcd 1000 (j_sum L 0 500) (j_sum L 0 (j_cu D d 500 0)) = m_early L D d part := by
  unfold m_early; rw [if_neg h, if_neg h1]

set_option maxHeartbeats 4000000 in
set_option maxRecDepth 100000 in
theorem c_M_common (l : Launch) (x0 : Int64) (y0 : Int64) (h0 : 0 ≤ y0.toInt) (h1 : y0.toInt ≤ x0.toInt) (h2 : x0.toInt < 1099511627776) : Met l y_M_common w_M_common ({ frames := 0, cells := 0, slots := 0, locals := 0 }) (st_P [.long x0, .long y0]) (k2_QcV (.long (j_gcd 1000 x0 y0))) 0 0 (fun _ => False) := by
  refine Met.ofW (cc := b_M_common) (maxL := 10) (ret := (some .long)) (by decide) rfl ?_
  intro p e s m args below meth c s₁ B hml hv
  obtain ⟨rfl, -⟩ := hv
  have hx := B.exec
  have hb := B.bytes
  have hr := B.returns
  have hts := atoms_spec (ws := w_M_common) B.pre
  have hown : s.vm.findClass "RoomEchoesModel" = some m.cls := findClass_of_methodNamed B.named
  have hlocks := B.notSynchronized
  have hl := lv_entry ([.long x0, .long y0]) (n := 10) (Nat.le_of_ble_eq_true rfl)
  rw [lg_entry_eq]
  generalize (lg_sl ([.long x0, .long y0]) ++ List.replicate (10 - (lg_sl ([.long x0, .long y0])).length) Slot.unset).toArray = ls at hl ⊢
  have hl : lv_has ls 10 [(0, .long x0), (2, .long y0)] := hl
  refine lv_lload_n hx hb d_M_common_0 rfl (lv_at hl 0 rfl) ?_
  refine lv_lstore (lv' := [(4, .long x0), (0, .long x0), (2, .long y0)]) hx hb d_M_common_1 hl (by decide) rfl (fun ls hl => ?_)
  refine lv_lload_n hx hb d_M_common_3 rfl (lv_at hl 2 rfl) ?_
  refine lv_lstore (lv' := [(6, .long y0), (4, .long x0), (0, .long x0), (2, .long y0)]) hx hb d_M_common_4 hl (by decide) rfl (fun ls hl => ?_)
  have hs0 : x0.toInt.toNat * y0.toInt.toNat < 2 ^ 1000 := Nat.lt_of_lt_of_le (Nat.lt_of_le_of_lt (Nat.mul_le_mul_left _ (show y0.toInt.toNat ≤ 1099511627776 by omega)) (Nat.mul_lt_mul_of_pos_right (show x0.toInt.toNat < 1099511627776 by omega) (by decide))) (show 1099511627776 * 1099511627776 ≤ 2 ^ 1000 by decide +kernel)
  have lp : ∀ (n9 : Nat) (f : Nat) (x : Int64) (y : Int64), f < n9 → 0 ≤ y.toInt → y.toInt ≤ x.toInt → x.toInt.toNat * y.toInt.toNat < 2 ^ f → j_gcd f x y = j_gcd 1000 x0 y0 → ∀ (ls : Array Slot), lv_has ls 10 [(4, .long x), (6, .long y), (0, .long x0), (2, .long y0)] → W p l e (headSpec w_M_common ({ frames := 0, cells := 0, slots := 0, locals := 0 })).room s m ([.long x0, .long y0] : List Value).toArray below meth c s.heap [] 0 0 (MQ below (k2_QcV (.long (j_gcd 1000 x0 y0))) ([.long x0, .long y0] : List Value).toArray s 0 0 (fun _ => False)) (F0 m 6 ls []) := by
    intro n9
    induction n9 with
    | zero => intro f x y hn hy0 hyx hb9 hj ls hl; omega
    | succ n9 ih =>
      intro f x y hn hy0 hyx hb9 hj ls hl
      refine lv_lload hx hb d_M_common_6 (lv_at hl 1 rfl) ?_
      refine lv_lconst (v := 0) hx hb d_M_common_8 (by decide) ?_
      refine W.lcmp hx hb d_M_common_9 ?_
      refine lv_if_eq (tgt := 31) hx hb d_M_common_10 (by decide) (fun c_10 => ?_) (fun c_10 => ?_)
      · rw [lg_cmp_eq] at c_10
        refine lv_lload hx hb d_M_common_31 (lv_at hl 0 rfl) ?_
        exact W.lret (v := x) hx hb hr (fun t ht hW => ⟨congrArg (fun z => Outcome.returned (some (Value.long z))) (by rw [← hj, c_10, gc_0]), ht⟩) (fun q h => by cases h) d_M_common_33
      · rw [lg_cmp_eq] at c_10
        obtain ⟨g, rfl, g1, g2, g3⟩ := gc_step hy0 hyx c_10 hb9
        refine lv_lload hx hb d_M_common_13 (lv_at hl 0 rfl) ?_
        refine lv_lload hx hb d_M_common_15 (lv_at hl 1 rfl) ?_
        refine lv_lrem hx hb d_M_common_17 c_10 ?_
        refine lv_lstore (lv' := [(8, .long (x - x / y * y)), (4, .long x), (6, .long y), (0, .long x0), (2, .long y0)]) hx hb d_M_common_18 hl (by decide) rfl (fun ls hl => ?_)
        refine lv_lload hx hb d_M_common_20 (lv_at hl 2 rfl) ?_
        refine lv_lstore (lv' := [(4, .long y), (8, .long (x - x / y * y)), (6, .long y), (0, .long x0), (2, .long y0)]) hx hb d_M_common_22 hl (by decide) rfl (fun ls hl => ?_)
        refine lv_lload hx hb d_M_common_24 (lv_at hl 1 rfl) ?_
        refine lv_lstore (lv' := [(6, .long (x - x / y * y)), (4, .long y), (8, .long (x - x / y * y)), (0, .long x0), (2, .long y0)]) hx hb d_M_common_26 hl (by decide) rfl (fun ls hl => ?_)
        refine lv_goto (tgt := 6) hx hb d_M_common_28 (by decide) ?_
        exact ih g _ _ (by omega) g1 g2 g3 (by rw [← hj, gc_s c_10]) ls (lv_sub hl [1, 0, 3, 4] rfl)
  exact lp 1001 1000 x0 y0 (by omega) h0 h1 hs0 rfl ls (lv_sub hl [1, 0, 2, 3] rfl)

set_option maxHeartbeats 4000000 in
set_option maxRecDepth 100000 in
theorem c_M_echo (l : Launch) (dC : Nat → ClassId) (dI : Nat → Nat → Nat) (cI cL : ClassId) (aM : Nat) (th0 : Int32) (kn : Int32) (mS : Nat) (mC : Nat) (mL : Nat) (mK : Nat) (mQ : Nat) (mT : Nat) (mD : Nat) (mA : Nat) (mB : Nat) (mG : Nat) (zs : Nat → Int32) (sc : Nat → Int32) (li : Nat → Int32) (sq : Nat → Int64) (so : Nat → Int64) (ds : Nat → Int64) (as : Nat → Int32) (bs : Nat → Int32) (cs : Nat → Int32) (kp : Nat → Int32) (p0 : Int32) (p1 : Int32) (sz : Nat) (hax : ax3k zs sc li) (hR : kn = 0 ∨ (kn = 1 ∧ MRz zs sc li ds as bs cs)) (h : wi p0 0 499 ∧ wi p1 0 6) : Met l y_M_echo w_M_echo ({ frames := 3, cells := 0, slots := 0, locals := 86 }) (wr_P (dC, dI) cI cL [(aM, .inr (3, [.int th0, .ref mS, .ref mC, .ref mL, .ref mK, .int kn, .ref mQ, .ref mT, .ref mD, .ref mA, .ref mB, .ref mG])), (mS, .inl (cI, 3, .inl zs)), (mC, .inl (cI, 3, .inl sc)), (mL, .inl (cI, 3, .inl li)), (mQ, .inl (cL, 243, .inr (.inl sq))), (mT, .inl (cL, 243, .inr (.inl so))), (mD, .inl (cL, 500, .inr (.inl ds))), (mA, .inl (cI, 500, .inl as)), (mB, .inl (cI, 500, .inl bs)), (mG, .inl (cI, 500, .inl cs)), (mK, .inl (cI, 6, .inl kp))] sz [.ref aM, .int p0, .int p1]) (va_Ql (fun (r9 : Int64) (u : (Nat → Int64) × (Nat → Int64) × (Nat → Int64) × (Nat → Int32) × (Nat → Int32) × (Nat → Int32)) => MRz zs sc li u.2.2.1 u.2.2.2.1 u.2.2.2.2.1 u.2.2.2.2.2 ∧ r9 = m_echo zs sc li kp u.2.2.2.1 u.2.2.2.2.1 u.2.2.2.2.2 p0.toNatClampNeg p1) (fun u t => va_P (dC, dI) vwCl [(aM, .inr (3, [.int 0, .ref mS, .ref mC, .ref mL, .ref mK, .int 1, .ref mQ, .ref mT, .ref mD, .ref mA, .ref mB, .ref mG])), (mS, .inl (cI, 3, .inl zs)), (mC, .inl (cI, 3, .inl sc)), (mL, .inl (cI, 3, .inl li)), (mQ, .inl (cL, 243, .inr (.inl u.1))), (mT, .inl (cL, 243, .inr (.inl u.2.1))), (mD, .inl (cL, 500, .inr (.inl u.2.2.1))), (mA, .inl (cI, 500, .inl u.2.2.2.1)), (mB, .inl (cI, 500, .inl u.2.2.2.2.1)), (mG, .inl (cI, 500, .inl u.2.2.2.2.2)), (mK, .inl (cI, 6, .inl kp))] t.heap ∧ va_D (va_A [(aM, .inr (3, [.int th0, .ref mS, .ref mC, .ref mL, .ref mK, .int kn, .ref mQ, .ref mT, .ref mD, .ref mA, .ref mB, .ref mG])), (mS, .inl (cI, 3, .inl zs)), (mC, .inl (cI, 3, .inl sc)), (mL, .inl (cI, 3, .inl li)), (mQ, .inl (cL, 243, .inr (.inl sq))), (mT, .inl (cL, 243, .inr (.inl so))), (mD, .inl (cL, 500, .inr (.inl ds))), (mA, .inl (cI, 500, .inl as)), (mB, .inl (cI, 500, .inl bs)), (mG, .inl (cI, 500, .inl cs)), (mK, .inl (cI, 6, .inl kp))] sz) [(aM, .inr (3, [.int 0, .ref mS, .ref mC, .ref mL, .ref mK, .int 1, .ref mQ, .ref mT, .ref mD, .ref mA, .ref mB, .ref mG])), (mS, .inl (cI, 3, .inl zs)), (mC, .inl (cI, 3, .inl sc)), (mL, .inl (cI, 3, .inl li)), (mQ, .inl (cL, 243, .inr (.inl u.1))), (mT, .inl (cL, 243, .inr (.inl u.2.1))), (mD, .inl (cL, 500, .inr (.inl u.2.2.1))), (mA, .inl (cI, 500, .inl u.2.2.2.1)), (mB, .inl (cI, 500, .inl u.2.2.2.2.1)), (mG, .inl (cI, 500, .inl u.2.2.2.2.2)), (mK, .inl (cI, 6, .inl kp))]) (va_A [(aM, .inr (3, [.int th0, .ref mS, .ref mC, .ref mL, .ref mK, .int kn, .ref mQ, .ref mT, .ref mD, .ref mA, .ref mB, .ref mG])), (mS, .inl (cI, 3, .inl zs)), (mC, .inl (cI, 3, .inl sc)), (mL, .inl (cI, 3, .inl li)), (mQ, .inl (cL, 243, .inr (.inl sq))), (mT, .inl (cL, 243, .inr (.inl so))), (mD, .inl (cL, 500, .inr (.inl ds))), (mA, .inl (cI, 500, .inl as)), (mB, .inl (cI, 500, .inl bs)), (mG, .inl (cI, 500, .inl cs)), (mK, .inl (cI, 6, .inl kp))] sz)) 0 0 (va_A [(aM, .inr (3, [.int th0, .ref mS, .ref mC, .ref mL, .ref mK, .int kn, .ref mQ, .ref mT, .ref mD, .ref mA, .ref mB, .ref mG])), (mS, .inl (cI, 3, .inl zs)), (mC, .inl (cI, 3, .inl sc)), (mL, .inl (cI, 3, .inl li)), (mQ, .inl (cL, 243, .inr (.inl sq))), (mT, .inl (cL, 243, .inr (.inl so))), (mD, .inl (cL, 500, .inr (.inl ds))), (mA, .inl (cI, 500, .inl as)), (mB, .inl (cI, 500, .inl bs)), (mG, .inl (cI, 500, .inl cs)), (mK, .inl (cI, 6, .inl kp))] sz) := by
  refine Met.ofW (cc := b_M_echo) (maxL := 3) (ret := (some .long)) (by decide) rfl ?_
  intro p e s m args below meth c s₁ B hml hv
  obtain ⟨rfl, hsz, hP, hM, hD0⟩ := hv
  have hx := B.exec
  have hb := B.bytes
  have hr := B.returns
  have hts := atoms_spec (ws := w_M_echo) B.pre
  have hown : s.vm.findClass "RoomEchoesModel" = some m.cls := findClass_of_methodNamed B.named
  have hlocks := B.notSynchronized
  have hK := hM.1
  subst hsz
  have hD := hD0.self (sz := s.heap.size)
  generalize hAe : va_A [(aM, .inr (3, [.int th0, .ref mS, .ref mC, .ref mL, .ref mK, .int kn, .ref mQ, .ref mT, .ref mD, .ref mA, .ref mB, .ref mG])), (mS, .inl (cI, 3, .inl zs)), (mC, .inl (cI, 3, .inl sc)), (mL, .inl (cI, 3, .inl li)), (mQ, .inl (cL, 243, .inr (.inl sq))), (mT, .inl (cL, 243, .inr (.inl so))), (mD, .inl (cL, 500, .inr (.inl ds))), (mA, .inl (cI, 500, .inl as)), (mB, .inl (cI, 500, .inl bs)), (mG, .inl (cI, 500, .inl cs)), (mK, .inl (cI, 6, .inl kp))] s.heap.size = A at hD ⊢
  have hA : ∀ q : Nat, s.heap.size ≤ q → A q := fun q h => by rw [← hAe]; exact Or.inr h
  have hS : va_S A s.heap s.heap [] := va_S.rf
  have hP : va_P (dC, dI) vwCl [(aM, .inr (3, [.int th0, .ref mS, .ref mC, .ref mL, .ref mK, .int kn, .ref mQ, .ref mT, .ref mD, .ref mA, .ref mB, .ref mG])), (mS, .inl (cI, 3, .inl zs)), (mC, .inl (cI, 3, .inl sc)), (mL, .inl (cI, 3, .inl li)), (mQ, .inl (cL, 243, .inr (.inl sq))), (mT, .inl (cL, 243, .inr (.inl so))), (mD, .inl (cL, 500, .inr (.inl ds))), (mA, .inl (cI, 500, .inl as)), (mB, .inl (cI, 500, .inl bs)), (mG, .inl (cI, 500, .inl cs)), (mK, .inl (cI, 6, .inl kp))] s.heap := hP
  have hl := lv_entry ([.ref aM, .int p0, .int p1]) (n := 3) (Nat.le_of_ble_eq_true rfl)
  rw [lg_entry_eq]
  generalize (lg_sl ([.ref aM, .int p0, .int p1]) ++ List.replicate (3 - (lg_sl ([.ref aM, .int p0, .int p1])).length) Slot.unset).toArray = ls at hl ⊢
  have hl : lv_has ls 3 [(0, .ref aM), (1, .int p0), (2, .int p1)] := hl
  refine lv_aload_n hx hb d_M_echo_0 rfl (lv_at hl 0 rfl) ?_
  refine lv_iload_n hx hb d_M_echo_1 rfl (lv_at hl 1 rfl) ?_
  refine lv_i2l hx hb d_M_echo_2 rfl ?_
  refine lv_lconst (v := 0) hx hb d_M_echo_3 (by decide) ?_
  refine lv_ldc2 (v := 499) hx hb hown (ht_ hts mw530) d_M_echo_4 ?_
  refine rd_c (va_runS (As := [.long p0.toInt64, .long 0, .long 499]) (rest := [.ref aM]) ⟨hx, hb, hml, hown, hts⟩ (c_M_in l p0.toInt64 0 499) (cwS 3 hts (gi_S mw475 mw473 mw474 mw33) rfl rfl rfl (by decide +kernel) ⟨Nat.le_of_ble_eq_true rfl, Nat.le_of_ble_eq_true rfl⟩) st_S rfl rfl hl.1 rfl (lv_room (Nat.le_of_ble_eq_true rfl)) d_M_echo_7 ⟨Nat.le_of_ble_eq_true rfl, Nat.le_of_ble_eq_true rfl⟩) ?_
  refine tp_i 1 (in_yes (lo := 0) (hi := 499) (by decide) (by decide) h.1) ?_
  refine lv_if_eq (tgt := 29) hx hb d_M_echo_10 (by decide) (fun c_10 => ?_) (fun c_10 => ?_)
  · skip
    exact absurd c_10 (by decide)
  · skip
    refine lv_iload_n hx hb d_M_echo_13 rfl (lv_at hl 2 rfl) ?_
    refine lv_i2l hx hb d_M_echo_14 rfl ?_
    refine lv_lconst (v := 0) hx hb d_M_echo_15 (by decide) ?_
    refine lv_ldc2 (v := 6) hx hb hown (ht_ hts mw531) d_M_echo_16 ?_
    refine rd_c (va_runS (As := [.long p1.toInt64, .long 0, .long 6]) (rest := [.ref aM]) ⟨hx, hb, hml, hown, hts⟩ (c_M_in l p1.toInt64 0 6) (cwS 3 hts (gi_S mw475 mw473 mw474 mw33) rfl rfl rfl (by decide +kernel) ⟨Nat.le_of_ble_eq_true rfl, Nat.le_of_ble_eq_true rfl⟩) st_S rfl rfl hl.1 rfl (lv_room (Nat.le_of_ble_eq_true rfl)) d_M_echo_19 ⟨Nat.le_of_ble_eq_true rfl, Nat.le_of_ble_eq_true rfl⟩) ?_
    refine tp_i 1 (in_yes (lo := 0) (hi := 6) (by decide) (by decide) h.2) ?_
    refine lv_if_eq (tgt := 29) hx hb d_M_echo_22 (by decide) (fun c_22 => ?_) (fun c_22 => ?_)
    · skip
      exact absurd c_22 (by decide)
    · skip
      refine lv_iconst (v := 0) hx hb d_M_echo_25 (by decide) ?_
      refine lv_goto (tgt := 30) hx hb d_M_echo_26 (by decide) ?_
      refine va_put (D := (dC, dI)) (ci := 3) (v := .int 0) (ty := .int) (C := "RoomEchoesModel") (T := FT_M) (N := 12) hx hb hts (hi_ in_M) ty_M tyo_M nm_M hown hK hP hD hS 0 rfl rfl 0 (by decide) (ht_ hts mw424) (fun _ h9 => h9) rfl (by decide +kernel) rfl rfl (Nat.le_of_ble_eq_true rfl) d_M_echo_30 (fun H locs hP hD hS => ?_)
      have hP : va_P (dC, dI) vwCl [(aM, .inr (3, [.int 0, .ref mS, .ref mC, .ref mL, .ref mK, .int kn, .ref mQ, .ref mT, .ref mD, .ref mA, .ref mB, .ref mG])), (mS, .inl (cI, 3, .inl zs)), (mC, .inl (cI, 3, .inl sc)), (mL, .inl (cI, 3, .inl li)), (mQ, .inl (cL, 243, .inr (.inl sq))), (mT, .inl (cL, 243, .inr (.inl so))), (mD, .inl (cL, 500, .inr (.inl ds))), (mA, .inl (cI, 500, .inl as)), (mB, .inl (cI, 500, .inl bs)), (mG, .inl (cI, 500, .inl cs)), (mK, .inl (cI, 6, .inl kp))] H := hP
      have hD : va_D A [(aM, .inr (3, [.int 0, .ref mS, .ref mC, .ref mL, .ref mK, .int kn, .ref mQ, .ref mT, .ref mD, .ref mA, .ref mB, .ref mG])), (mS, .inl (cI, 3, .inl zs)), (mC, .inl (cI, 3, .inl sc)), (mL, .inl (cI, 3, .inl li)), (mQ, .inl (cL, 243, .inr (.inl sq))), (mT, .inl (cL, 243, .inr (.inl so))), (mD, .inl (cL, 500, .inr (.inl ds))), (mA, .inl (cI, 500, .inl as)), (mB, .inl (cI, 500, .inl bs)), (mG, .inl (cI, 500, .inl cs)), (mK, .inl (cI, 6, .inl kp))] := hD
      refine lv_aload_n hx hb d_M_echo_33 rfl (lv_at hl 0 rfl) ?_
      refine va_get (D := (dC, dI)) (ci := 3) (v := .int 0) (C := "RoomEchoesModel") (T := FT_M) (N := 12) hx hb hts (hi_ in_M) hown hK hP 0 rfl rfl 0 (by decide) (ht_ hts mw424) (fun _ h9 => h9) rfl d_M_echo_34 ?_
      refine lv_if_le (tgt := 42) hx hb d_M_echo_37 (by decide) (fun c_37 => ?_) (fun c_37 => ?_)
      · skip
        refine lv_aload_n hx hb d_M_echo_42 rfl (lv_at hl 0 rfl) ?_
        have hPc := hP.sub (ws' := [(aM, .inr (3, [.int 0, .ref mS, .ref mC, .ref mL, .ref mK, .int kn, .ref mQ, .ref mT, .ref mD, .ref mA, .ref mB, .ref mG])), (mS, .inl (cI, 3, .inl zs)), (mC, .inl (cI, 3, .inl sc)), (mL, .inl (cI, 3, .inl li)), (mQ, .inl (cL, 243, .inr (.inl sq))), (mT, .inl (cL, 243, .inr (.inl so))), (mD, .inl (cL, 500, .inr (.inl ds))), (mA, .inl (cI, 500, .inl as)), (mB, .inl (cI, 500, .inl bs)), (mG, .inl (cI, 500, .inl cs))]) [0, 1, 2, 3, 4, 5, 6, 7, 8, 9] rfl
        have hDc := hD.sub (ws' := [(aM, .inr (3, [.int 0, .ref mS, .ref mC, .ref mL, .ref mK, .int kn, .ref mQ, .ref mT, .ref mD, .ref mA, .ref mB, .ref mG])), (mS, .inl (cI, 3, .inl zs)), (mC, .inl (cI, 3, .inl sc)), (mL, .inl (cI, 3, .inl li)), (mQ, .inl (cL, 243, .inr (.inl sq))), (mT, .inl (cL, 243, .inr (.inl so))), (mD, .inl (cL, 500, .inr (.inl ds))), (mA, .inl (cI, 500, .inl as)), (mB, .inl (cI, 500, .inl bs)), (mG, .inl (cI, 500, .inl cs))]) [0, 1, 2, 3, 4, 5, 6, 7, 8, 9] (by decide) rfl
        refine wx_cv (wr := [(mK, .inl (cI, 6, .inl kp))]) (w1 := fun (u : (Nat → Int64) × (Nat → Int64) × (Nat → Int64) × (Nat → Int32) × (Nat → Int32) × (Nat → Int32)) => [(aM, .inr (3, [.int 0, .ref mS, .ref mC, .ref mL, .ref mK, .int 1, .ref mQ, .ref mT, .ref mD, .ref mA, .ref mB, .ref mG])), (mS, .inl (cI, 3, .inl zs)), (mC, .inl (cI, 3, .inl sc)), (mL, .inl (cI, 3, .inl li)), (mQ, .inl (cL, 243, .inr (.inl u.1))), (mT, .inl (cL, 243, .inr (.inl u.2.1))), (mD, .inl (cL, 500, .inr (.inl u.2.2.1))), (mA, .inl (cI, 500, .inl u.2.2.2.1)), (mB, .inl (cI, 500, .inl u.2.2.2.2.1)), (mG, .inl (cI, 500, .inl u.2.2.2.2.2))]) hP hD hS hA [0, 1, 2, 3, 4, 5, 6, 7, 8, 9] [10] rfl rfl (by decide) (by decide) (va_runV (As := []) (rest := []) ⟨hx, hb, hml, hown, hts⟩ (c_M_make l dC dI cI cL aM 0 kn mS mC mL mK mQ mT mD mA mB mG zs sc li sq so ds as bs cs _ hax hR) (cwV 0 hts (gi_V mw535 mw532 mw534 mw20 mw33) rfl rfl rfl (by decide +kernel) ⟨Nat.le_of_ble_eq_true rfl, Nat.le_of_ble_eq_true rfl⟩) (wr_V hM hPc hDc rfl rfl rfl) rfl rfl hl.1 rfl (lv_room (Nat.le_of_ble_eq_true rfl)) d_M_echo_43 ⟨Nat.le_of_ble_eq_true rfl, Nat.le_of_ble_eq_true rfl⟩) (fun u H locs hu_7 hP hD hS => ?_)
        obtain ⟨sq9_1, so9_2, ds9_3, as9_4, bs9_5, cs9_6⟩ := u
        have hu_7 : MRz zs sc li ds9_3 as9_4 bs9_5 cs9_6 ∧ (kn = 1 → ds9_3 = ds ∧ as9_4 = as ∧ bs9_5 = bs ∧ cs9_6 = cs) := hu_7
        have hP := hP.sub (ws' := [(aM, .inr (3, [.int 0, .ref mS, .ref mC, .ref mL, .ref mK, .int 1, .ref mQ, .ref mT, .ref mD, .ref mA, .ref mB, .ref mG])), (mS, .inl (cI, 3, .inl zs)), (mC, .inl (cI, 3, .inl sc)), (mL, .inl (cI, 3, .inl li)), (mQ, .inl (cL, 243, .inr (.inl sq9_1))), (mT, .inl (cL, 243, .inr (.inl so9_2))), (mD, .inl (cL, 500, .inr (.inl ds9_3))), (mA, .inl (cI, 500, .inl as9_4)), (mB, .inl (cI, 500, .inl bs9_5)), (mG, .inl (cI, 500, .inl cs9_6)), (mK, .inl (cI, 6, .inl kp))]) [1, 2, 3, 4, 5, 6, 7, 8, 9, 10, 0] rfl
        have hD := hD.sub (ws' := [(aM, .inr (3, [.int 0, .ref mS, .ref mC, .ref mL, .ref mK, .int 1, .ref mQ, .ref mT, .ref mD, .ref mA, .ref mB, .ref mG])), (mS, .inl (cI, 3, .inl zs)), (mC, .inl (cI, 3, .inl sc)), (mL, .inl (cI, 3, .inl li)), (mQ, .inl (cL, 243, .inr (.inl sq9_1))), (mT, .inl (cL, 243, .inr (.inl so9_2))), (mD, .inl (cL, 500, .inr (.inl ds9_3))), (mA, .inl (cI, 500, .inl as9_4)), (mB, .inl (cI, 500, .inl bs9_5)), (mG, .inl (cI, 500, .inl cs9_6)), (mK, .inl (cI, 6, .inl kp))]) [1, 2, 3, 4, 5, 6, 7, 8, 9, 10, 0] (by decide) rfl
        have k5 := (wi_nI (hi := 499) h.1 (by decide)).2
        refine lv_iload_n hx hb d_M_echo_46 rfl (lv_at hl 2 rfl) ?_
        refine lv_iconst (v := 4) hx hb d_M_echo_47 (by decide) ?_
        refine lv_icmp_ge (tgt := 77) hx hb d_M_echo_48 (by decide) (fun c_48 => ?_) (fun c_48 => ?_)
        · skip
          refine lv_iload_n hx hb d_M_echo_77 rfl (lv_at hl 2 rfl) ?_
          refine lv_iconst (v := 4) hx hb d_M_echo_78 (by decide) ?_
          refine lv_icmp_ne (tgt := 92) hx hb d_M_echo_79 (by decide) (fun c_79 => ?_) (fun c_79 => ?_)
          · skip
            refine lv_iload_n hx hb d_M_echo_92 rfl (lv_at hl 2 rfl) ?_
            refine lv_iconst (v := 5) hx hb d_M_echo_93 (by decide) ?_
            refine lv_icmp_ne (tgt := 107) hx hb d_M_echo_94 (by decide) (fun c_94 => ?_) (fun c_94 => ?_)
            · skip
              refine lv_aload_n hx hb d_M_echo_107 rfl (lv_at hl 0 rfl) ?_
              refine va_get (D := (dC, dI)) (ci := 3) (v := .ref mG) (C := "RoomEchoesModel") (T := FT_M) (N := 12) hx hb hts (hi_ in_M) hown hK hP 0 rfl rfl 11 (by decide) (ht_ hts mw435) (fun _ h9 => h9) rfl d_M_echo_108 ?_
              refine lv_iload_n hx hb d_M_echo_111 rfl (lv_at hl 1 rfl) ?_
              refine tp_i (nI p0.toNatClampNeg) (wi_nI (hi := 499) h.1 (by decide)).1 ?_
              refine va_iald hx hb hK hP 9 0 rfl rfl (vp_in_nI (by omega) (by omega)) d_M_echo_112 ?_
              refine tp_i (cs9_6 p0.toNatClampNeg) (by rw [nI_clamp (by omega)]) ?_
              refine lv_i2l hx hb d_M_echo_113 rfl ?_
              have hP9 : va_P (dC, dI) vwCl [(aM, .inr (3, [.int 0, .ref mS, .ref mC, .ref mL, .ref mK, .int 1, .ref mQ, .ref mT, .ref mD, .ref mA, .ref mB, .ref mG])), (mS, .inl (cI, 3, .inl zs)), (mC, .inl (cI, 3, .inl sc)), (mL, .inl (cI, 3, .inl li)), (mQ, .inl (cL, 243, .inr (.inl sq9_1))), (mT, .inl (cL, 243, .inr (.inl so9_2))), (mD, .inl (cL, 500, .inr (.inl ds9_3))), (mA, .inl (cI, 500, .inl as9_4)), (mB, .inl (cI, 500, .inl bs9_5)), (mG, .inl (cI, 500, .inl cs9_6)), (mK, .inl (cI, 6, .inl kp))] _ := hP
              have hD9 : va_D A [(aM, .inr (3, [.int 0, .ref mS, .ref mC, .ref mL, .ref mK, .int 1, .ref mQ, .ref mT, .ref mD, .ref mA, .ref mB, .ref mG])), (mS, .inl (cI, 3, .inl zs)), (mC, .inl (cI, 3, .inl sc)), (mL, .inl (cI, 3, .inl li)), (mQ, .inl (cL, 243, .inr (.inl sq9_1))), (mT, .inl (cL, 243, .inr (.inl so9_2))), (mD, .inl (cL, 500, .inr (.inl ds9_3))), (mA, .inl (cI, 500, .inl as9_4)), (mB, .inl (cI, 500, .inl bs9_5)), (mG, .inl (cI, 500, .inl cs9_6)), (mK, .inl (cI, 6, .inl kp))] := hD
              exact W.lret (v := (cs9_6 p0.toNatClampNeg).toInt64) hx hb hr (fun t ht hW => ⟨⟨_, (sq9_1, so9_2, ds9_3, as9_4, bs9_5, cs9_6), rfl, ⟨hu_7.1, (by unfold m_echo; rw [if_pos c_48, if_neg c_79, if_neg c_94])⟩, by rw [ht]; exact hP9, hD9⟩, hS.F ht⟩) hS.2.2 d_M_echo_114
            · skip
              refine lv_aload_n hx hb d_M_echo_97 rfl (lv_at hl 0 rfl) ?_
              refine va_get (D := (dC, dI)) (ci := 3) (v := .ref mB) (C := "RoomEchoesModel") (T := FT_M) (N := 12) hx hb hts (hi_ in_M) hown hK hP 0 rfl rfl 10 (by decide) (ht_ hts mw434) (fun _ h9 => h9) rfl d_M_echo_98 ?_
              refine lv_iload_n hx hb d_M_echo_101 rfl (lv_at hl 1 rfl) ?_
              refine tp_i (nI p0.toNatClampNeg) (wi_nI (hi := 499) h.1 (by decide)).1 ?_
              refine va_iald hx hb hK hP 8 0 rfl rfl (vp_in_nI (by omega) (by omega)) d_M_echo_102 ?_
              refine tp_i (bs9_5 p0.toNatClampNeg) (by rw [nI_clamp (by omega)]) ?_
              refine lv_i2l hx hb d_M_echo_103 rfl ?_
              refine lv_goto (tgt := 114) hx hb d_M_echo_104 (by decide) ?_
              have hP9 : va_P (dC, dI) vwCl [(aM, .inr (3, [.int 0, .ref mS, .ref mC, .ref mL, .ref mK, .int 1, .ref mQ, .ref mT, .ref mD, .ref mA, .ref mB, .ref mG])), (mS, .inl (cI, 3, .inl zs)), (mC, .inl (cI, 3, .inl sc)), (mL, .inl (cI, 3, .inl li)), (mQ, .inl (cL, 243, .inr (.inl sq9_1))), (mT, .inl (cL, 243, .inr (.inl so9_2))), (mD, .inl (cL, 500, .inr (.inl ds9_3))), (mA, .inl (cI, 500, .inl as9_4)), (mB, .inl (cI, 500, .inl bs9_5)), (mG, .inl (cI, 500, .inl cs9_6)), (mK, .inl (cI, 6, .inl kp))] _ := hP
              have hD9 : va_D A [(aM, .inr (3, [.int 0, .ref mS, .ref mC, .ref mL, .ref mK, .int 1, .ref mQ, .ref mT, .ref mD, .ref mA, .ref mB, .ref mG])), (mS, .inl (cI, 3, .inl zs)), (mC, .inl (cI, 3, .inl sc)), (mL, .inl (cI, 3, .inl li)), (mQ, .inl (cL, 243, .inr (.inl sq9_1))), (mT, .inl (cL, 243, .inr (.inl so9_2))), (mD, .inl (cL, 500, .inr (.inl ds9_3))), (mA, .inl (cI, 500, .inl as9_4)), (mB, .inl (cI, 500, .inl bs9_5)), (mG, .inl (cI, 500, .inl cs9_6)), (mK, .inl (cI, 6, .inl kp))] := hD
              exact W.lret (v := (bs9_5 p0.toNatClampNeg).toInt64) hx hb hr (fun t ht hW => ⟨⟨_, (sq9_1, so9_2, ds9_3, as9_4, bs9_5, cs9_6), rfl, ⟨hu_7.1, (by unfold m_echo; rw [if_pos c_48, if_neg c_79, if_pos c_94])⟩, by rw [ht]; exact hP9, hD9⟩, hS.F ht⟩) hS.2.2 d_M_echo_114
          · skip
            refine lv_aload_n hx hb d_M_echo_82 rfl (lv_at hl 0 rfl) ?_
            refine va_get (D := (dC, dI)) (ci := 3) (v := .ref mA) (C := "RoomEchoesModel") (T := FT_M) (N := 12) hx hb hts (hi_ in_M) hown hK hP 0 rfl rfl 9 (by decide) (ht_ hts mw433) (fun _ h9 => h9) rfl d_M_echo_83 ?_
            refine lv_iload_n hx hb d_M_echo_86 rfl (lv_at hl 1 rfl) ?_
            refine tp_i (nI p0.toNatClampNeg) (wi_nI (hi := 499) h.1 (by decide)).1 ?_
            refine va_iald hx hb hK hP 7 0 rfl rfl (vp_in_nI (by omega) (by omega)) d_M_echo_87 ?_
            refine tp_i (as9_4 p0.toNatClampNeg) (by rw [nI_clamp (by omega)]) ?_
            refine lv_i2l hx hb d_M_echo_88 rfl ?_
            refine lv_goto (tgt := 114) hx hb d_M_echo_89 (by decide) ?_
            have hP9 : va_P (dC, dI) vwCl [(aM, .inr (3, [.int 0, .ref mS, .ref mC, .ref mL, .ref mK, .int 1, .ref mQ, .ref mT, .ref mD, .ref mA, .ref mB, .ref mG])), (mS, .inl (cI, 3, .inl zs)), (mC, .inl (cI, 3, .inl sc)), (mL, .inl (cI, 3, .inl li)), (mQ, .inl (cL, 243, .inr (.inl sq9_1))), (mT, .inl (cL, 243, .inr (.inl so9_2))), (mD, .inl (cL, 500, .inr (.inl ds9_3))), (mA, .inl (cI, 500, .inl as9_4)), (mB, .inl (cI, 500, .inl bs9_5)), (mG, .inl (cI, 500, .inl cs9_6)), (mK, .inl (cI, 6, .inl kp))] _ := hP
            have hD9 : va_D A [(aM, .inr (3, [.int 0, .ref mS, .ref mC, .ref mL, .ref mK, .int 1, .ref mQ, .ref mT, .ref mD, .ref mA, .ref mB, .ref mG])), (mS, .inl (cI, 3, .inl zs)), (mC, .inl (cI, 3, .inl sc)), (mL, .inl (cI, 3, .inl li)), (mQ, .inl (cL, 243, .inr (.inl sq9_1))), (mT, .inl (cL, 243, .inr (.inl so9_2))), (mD, .inl (cL, 500, .inr (.inl ds9_3))), (mA, .inl (cI, 500, .inl as9_4)), (mB, .inl (cI, 500, .inl bs9_5)), (mG, .inl (cI, 500, .inl cs9_6)), (mK, .inl (cI, 6, .inl kp))] := hD
            exact W.lret (v := (as9_4 p0.toNatClampNeg).toInt64) hx hb hr (fun t ht hW => ⟨⟨_, (sq9_1, so9_2, ds9_3, as9_4, bs9_5, cs9_6), rfl, ⟨hu_7.1, (by unfold m_echo; rw [if_pos c_48, if_pos c_79])⟩, by rw [ht]; exact hP9, hD9⟩, hS.F ht⟩) hS.2.2 d_M_echo_114
        · skip
          refine lv_aload_n hx hb d_M_echo_51 rfl (lv_at hl 0 rfl) ?_
          refine lv_aload_n hx hb d_M_echo_52 rfl (lv_at hl 0 rfl) ?_
          refine va_get (D := (dC, dI)) (ci := 3) (v := .ref mA) (C := "RoomEchoesModel") (T := FT_M) (N := 12) hx hb hts (hi_ in_M) hown hK hP 0 rfl rfl 9 (by decide) (ht_ hts mw433) (fun _ h9 => h9) rfl d_M_echo_53 ?_
          refine lv_iload_n hx hb d_M_echo_56 rfl (lv_at hl 1 rfl) ?_
          refine tp_i (nI p0.toNatClampNeg) (wi_nI (hi := 499) h.1 (by decide)).1 ?_
          refine va_iald hx hb hK hP 7 0 rfl rfl (vp_in_nI (by omega) (by omega)) d_M_echo_57 ?_
          refine tp_i (as9_4 p0.toNatClampNeg) (by rw [nI_clamp (by omega)]) ?_
          refine lv_aload_n hx hb d_M_echo_58 rfl (lv_at hl 0 rfl) ?_
          refine va_get (D := (dC, dI)) (ci := 3) (v := .ref mB) (C := "RoomEchoesModel") (T := FT_M) (N := 12) hx hb hts (hi_ in_M) hown hK hP 0 rfl rfl 10 (by decide) (ht_ hts mw434) (fun _ h9 => h9) rfl d_M_echo_59 ?_
          refine lv_iload_n hx hb d_M_echo_62 rfl (lv_at hl 1 rfl) ?_
          refine tp_i (nI p0.toNatClampNeg) (wi_nI (hi := 499) h.1 (by decide)).1 ?_
          refine va_iald hx hb hK hP 8 0 rfl rfl (vp_in_nI (by omega) (by omega)) d_M_echo_63 ?_
          refine tp_i (bs9_5 p0.toNatClampNeg) (by rw [nI_clamp (by omega)]) ?_
          refine lv_aload_n hx hb d_M_echo_64 rfl (lv_at hl 0 rfl) ?_
          refine va_get (D := (dC, dI)) (ci := 3) (v := .ref mG) (C := "RoomEchoesModel") (T := FT_M) (N := 12) hx hb hts (hi_ in_M) hown hK hP 0 rfl rfl 11 (by decide) (ht_ hts mw435) (fun _ h9 => h9) rfl d_M_echo_65 ?_
          refine lv_iload_n hx hb d_M_echo_68 rfl (lv_at hl 1 rfl) ?_
          refine tp_i (nI p0.toNatClampNeg) (wi_nI (hi := 499) h.1 (by decide)).1 ?_
          refine va_iald hx hb hK hP 9 0 rfl rfl (vp_in_nI (by omega) (by omega)) d_M_echo_69 ?_
          refine tp_i (cs9_6 p0.toNatClampNeg) (by rw [nI_clamp (by omega)]) ?_
          refine lv_iload_n hx hb d_M_echo_70 rfl (lv_at hl 2 rfl) ?_
          have hPc := hP.sub (ws' := [(aM, .inr (3, [.int 0, .ref mS, .ref mC, .ref mL, .ref mK, .int 1, .ref mQ, .ref mT, .ref mD, .ref mA, .ref mB, .ref mG])), (mS, .inl (cI, 3, .inl zs)), (mC, .inl (cI, 3, .inl sc)), (mL, .inl (cI, 3, .inl li)), (mK, .inl (cI, 6, .inl kp))]) [0, 1, 2, 3, 10] rfl
          refine rd_c (va_runV (As := [.int (as9_4 p0.toNatClampNeg), .int (bs9_5 p0.toNatClampNeg), .int (cs9_6 p0.toNatClampNeg), .int p1]) (rest := []) ⟨hx, hb, hml, hown, hts⟩ (c_M_told l dC dI cI cL aM 0 1 mS mC mL mK mQ mT mD mA mB mG zs sc li kp (as9_4 p0.toNatClampNeg) (bs9_5 p0.toNatClampNeg) (cs9_6 p0.toNatClampNeg) p1 (mr_ne hax hu_7.1 (by omega))) (cwV 4 hts (gi_V mw499 mw496 mw498 mw15 mw33) rfl rfl rfl (by decide +kernel) ⟨Nat.le_of_ble_eq_true rfl, Nat.le_of_ble_eq_true rfl⟩) (rd_V hM hPc rfl rfl rfl) rfl rfl hl.1 rfl (lv_room (Nat.le_of_ble_eq_true rfl)) d_M_echo_71 ⟨Nat.le_of_ble_eq_true rfl, Nat.le_of_ble_eq_true rfl⟩) ?_
          refine lv_goto (tgt := 114) hx hb d_M_echo_74 (by decide) ?_
          have hP9 : va_P (dC, dI) vwCl [(aM, .inr (3, [.int 0, .ref mS, .ref mC, .ref mL, .ref mK, .int 1, .ref mQ, .ref mT, .ref mD, .ref mA, .ref mB, .ref mG])), (mS, .inl (cI, 3, .inl zs)), (mC, .inl (cI, 3, .inl sc)), (mL, .inl (cI, 3, .inl li)), (mQ, .inl (cL, 243, .inr (.inl sq9_1))), (mT, .inl (cL, 243, .inr (.inl so9_2))), (mD, .inl (cL, 500, .inr (.inl ds9_3))), (mA, .inl (cI, 500, .inl as9_4)), (mB, .inl (cI, 500, .inl bs9_5)), (mG, .inl (cI, 500, .inl cs9_6)), (mK, .inl (cI, 6, .inl kp))] _ := hP
          have hD9 : va_D A [(aM, .inr (3, [.int 0, .ref mS, .ref mC, .ref mL, .ref mK, .int 1, .ref mQ, .ref mT, .ref mD, .ref mA, .ref mB, .ref mG])), (mS, .inl (cI, 3, .inl zs)), (mC, .inl (cI, 3, .inl sc)), (mL, .inl (cI, 3, .inl li)), (mQ, .inl (cL, 243, .inr (.inl sq9_1))), (mT, .inl (cL, 243, .inr (.inl so9_2))), (mD, .inl (cL, 500, .inr (.inl ds9_3))), (mA, .inl (cI, 500, .inl as9_4)), (mB, .inl (cI, 500, .inl bs9_5)), (mG, .inl (cI, 500, .inl cs9_6)), (mK, .inl (cI, 6, .inl kp))] := hD
          exact W.lret (v := j_M_told zs sc li kp (as9_4 p0.toNatClampNeg) (bs9_5 p0.toNatClampNeg) (cs9_6 p0.toNatClampNeg) p1) hx hb hr (fun t ht hW => ⟨⟨_, (sq9_1, so9_2, ds9_3, as9_4, bs9_5, cs9_6), rfl, ⟨hu_7.1, (by unfold m_echo; rw [if_neg c_48])⟩, by rw [ht]; exact hP9, hD9⟩, hS.F ht⟩) hS.2.2 d_M_echo_114
      · skip
        exact absurd (by decide) c_37

set_option maxHeartbeats 4000000 in
set_option maxRecDepth 100000 in
theorem n_M_echo (l : Launch) (dC : Nat → ClassId) (dI : Nat → Nat → Nat) (cI cL : ClassId) (aM : Nat) (th0 : Int32) (kn : Int32) (mS : Nat) (mC : Nat) (mL : Nat) (mK : Nat) (mQ : Nat) (mT : Nat) (mD : Nat) (mA : Nat) (mB : Nat) (mG : Nat) (p0 : Int32) (p1 : Int32) (sz : Nat) (h : ¬ (wi p0 0 499 ∧ wi p1 0 6)) : Met l y_M_echo w_M_echo ({ frames := 1, cells := 0, slots := 0, locals := 25 }) (wr_P (dC, dI) cI cL [(aM, .inr (3, [.int th0, .ref mS, .ref mC, .ref mL, .ref mK, .int kn, .ref mQ, .ref mT, .ref mD, .ref mA, .ref mB, .ref mG]))] sz [.ref aM, .int p0, .int p1]) (wr_l 0 (dC, dI) (va_A [(aM, .inr (3, [.int th0, .ref mS, .ref mC, .ref mL, .ref mK, .int kn, .ref mQ, .ref mT, .ref mD, .ref mA, .ref mB, .ref mG]))] sz) [(aM, .inr (3, [.int 1, .ref mS, .ref mC, .ref mL, .ref mK, .int kn, .ref mQ, .ref mT, .ref mD, .ref mA, .ref mB, .ref mG]))]) 0 0 (va_A [(aM, .inr (3, [.int th0, .ref mS, .ref mC, .ref mL, .ref mK, .int kn, .ref mQ, .ref mT, .ref mD, .ref mA, .ref mB, .ref mG]))] sz) := by
  refine Met.ofW (cc := b_M_echo) (maxL := 3) (ret := (some .long)) (by decide) rfl ?_
  intro p e s m args below meth c s₁ B hml hv
  obtain ⟨rfl, hsz, hP, hM, hD0⟩ := hv
  have hx := B.exec
  have hb := B.bytes
  have hr := B.returns
  have hts := atoms_spec (ws := w_M_echo) B.pre
  have hown : s.vm.findClass "RoomEchoesModel" = some m.cls := findClass_of_methodNamed B.named
  have hlocks := B.notSynchronized
  have hK := hM.1
  subst hsz
  have hD := hD0.self (sz := s.heap.size)
  generalize hAe : va_A [(aM, .inr (3, [.int th0, .ref mS, .ref mC, .ref mL, .ref mK, .int kn, .ref mQ, .ref mT, .ref mD, .ref mA, .ref mB, .ref mG]))] s.heap.size = A at hD ⊢
  have hA : ∀ q : Nat, s.heap.size ≤ q → A q := fun q h => by rw [← hAe]; exact Or.inr h
  have hS : va_S A s.heap s.heap [] := va_S.rf
  have hP : va_P (dC, dI) vwCl [(aM, .inr (3, [.int th0, .ref mS, .ref mC, .ref mL, .ref mK, .int kn, .ref mQ, .ref mT, .ref mD, .ref mA, .ref mB, .ref mG]))] s.heap := hP
  have hl := lv_entry ([.ref aM, .int p0, .int p1]) (n := 3) (Nat.le_of_ble_eq_true rfl)
  rw [lg_entry_eq]
  generalize (lg_sl ([.ref aM, .int p0, .int p1]) ++ List.replicate (3 - (lg_sl ([.ref aM, .int p0, .int p1])).length) Slot.unset).toArray = ls at hl ⊢
  have hl : lv_has ls 3 [(0, .ref aM), (1, .int p0), (2, .int p1)] := hl
  refine lv_aload_n hx hb d_M_echo_0 rfl (lv_at hl 0 rfl) ?_
  refine lv_iload_n hx hb d_M_echo_1 rfl (lv_at hl 1 rfl) ?_
  refine lv_i2l hx hb d_M_echo_2 rfl ?_
  refine lv_lconst (v := 0) hx hb d_M_echo_3 (by decide) ?_
  refine lv_ldc2 (v := 499) hx hb hown (ht_ hts mw530) d_M_echo_4 ?_
  refine rd_c (va_runS (As := [.long p0.toInt64, .long 0, .long 499]) (rest := [.ref aM]) ⟨hx, hb, hml, hown, hts⟩ (c_M_in l p0.toInt64 0 499) (cwS 3 hts (gi_S mw475 mw473 mw474 mw33) rfl rfl rfl (by decide +kernel) ⟨Nat.le_of_ble_eq_true rfl, Nat.le_of_ble_eq_true rfl⟩) st_S rfl rfl hl.1 rfl (lv_room (Nat.le_of_ble_eq_true rfl)) d_M_echo_7 ⟨Nat.le_of_ble_eq_true rfl, Nat.le_of_ble_eq_true rfl⟩) ?_
  refine lv_if_eq (tgt := 29) hx hb d_M_echo_10 (by decide) (fun c_10 => ?_) (fun c_10 => ?_)
  · skip
    refine lv_iconst (v := 1) hx hb d_M_echo_29 (by decide) ?_
    refine va_put (D := (dC, dI)) (ci := 3) (v := .int 1) (ty := .int) (C := "RoomEchoesModel") (T := FT_M) (N := 12) hx hb hts (hi_ in_M) ty_M tyo_M nm_M hown hK hP hD hS 0 rfl rfl 0 (by decide) (ht_ hts mw424) (fun _ h9 => h9) rfl (by decide +kernel) rfl rfl (Nat.le_of_ble_eq_true rfl) d_M_echo_30 (fun H locs hP hD hS => ?_)
    have hP : va_P (dC, dI) vwCl [(aM, .inr (3, [.int 1, .ref mS, .ref mC, .ref mL, .ref mK, .int kn, .ref mQ, .ref mT, .ref mD, .ref mA, .ref mB, .ref mG]))] H := hP
    have hD : va_D A [(aM, .inr (3, [.int 1, .ref mS, .ref mC, .ref mL, .ref mK, .int kn, .ref mQ, .ref mT, .ref mD, .ref mA, .ref mB, .ref mG]))] := hD
    refine lv_aload_n hx hb d_M_echo_33 rfl (lv_at hl 0 rfl) ?_
    refine va_get (D := (dC, dI)) (ci := 3) (v := .int 1) (C := "RoomEchoesModel") (T := FT_M) (N := 12) hx hb hts (hi_ in_M) hown hK hP 0 rfl rfl 0 (by decide) (ht_ hts mw424) (fun _ h9 => h9) rfl d_M_echo_34 ?_
    refine lv_if_le (tgt := 42) hx hb d_M_echo_37 (by decide) (fun c_37 => ?_) (fun c_37 => ?_)
    · skip
      exact absurd c_37 (by decide)
    · skip
      refine lv_lconst (v := 0) hx hb d_M_echo_40 (by decide) ?_
      have hP9 : va_P (dC, dI) vwCl [(aM, .inr (3, [.int 1, .ref mS, .ref mC, .ref mL, .ref mK, .int kn, .ref mQ, .ref mT, .ref mD, .ref mA, .ref mB, .ref mG]))] H := hP
      have hD9 : va_D A [(aM, .inr (3, [.int 1, .ref mS, .ref mC, .ref mL, .ref mK, .int kn, .ref mQ, .ref mT, .ref mD, .ref mA, .ref mB, .ref mG]))] := hD
      exact W.lret (v := 0) hx hb hr (fun t ht hW => ⟨⟨_, (), rfl, rfl, by rw [ht]; exact hP9, hD9⟩, hS.F ht⟩) hS.2.2 d_M_echo_41
  · skip
    refine lv_iload_n hx hb d_M_echo_13 rfl (lv_at hl 2 rfl) ?_
    refine lv_i2l hx hb d_M_echo_14 rfl ?_
    refine lv_lconst (v := 0) hx hb d_M_echo_15 (by decide) ?_
    refine lv_ldc2 (v := 6) hx hb hown (ht_ hts mw531) d_M_echo_16 ?_
    refine rd_c (va_runS (As := [.long p1.toInt64, .long 0, .long 6]) (rest := [.ref aM]) ⟨hx, hb, hml, hown, hts⟩ (c_M_in l p1.toInt64 0 6) (cwS 3 hts (gi_S mw475 mw473 mw474 mw33) rfl rfl rfl (by decide +kernel) ⟨Nat.le_of_ble_eq_true rfl, Nat.le_of_ble_eq_true rfl⟩) st_S rfl rfl hl.1 rfl (lv_room (Nat.le_of_ble_eq_true rfl)) d_M_echo_19 ⟨Nat.le_of_ble_eq_true rfl, Nat.le_of_ble_eq_true rfl⟩) ?_
    refine lv_if_eq (tgt := 29) hx hb d_M_echo_22 (by decide) (fun c_22 => ?_) (fun c_22 => ?_)
    · skip
      refine lv_iconst (v := 1) hx hb d_M_echo_29 (by decide) ?_
      refine va_put (D := (dC, dI)) (ci := 3) (v := .int 1) (ty := .int) (C := "RoomEchoesModel") (T := FT_M) (N := 12) hx hb hts (hi_ in_M) ty_M tyo_M nm_M hown hK hP hD hS 0 rfl rfl 0 (by decide) (ht_ hts mw424) (fun _ h9 => h9) rfl (by decide +kernel) rfl rfl (Nat.le_of_ble_eq_true rfl) d_M_echo_30 (fun H locs hP hD hS => ?_)
      have hP : va_P (dC, dI) vwCl [(aM, .inr (3, [.int 1, .ref mS, .ref mC, .ref mL, .ref mK, .int kn, .ref mQ, .ref mT, .ref mD, .ref mA, .ref mB, .ref mG]))] H := hP
      have hD : va_D A [(aM, .inr (3, [.int 1, .ref mS, .ref mC, .ref mL, .ref mK, .int kn, .ref mQ, .ref mT, .ref mD, .ref mA, .ref mB, .ref mG]))] := hD
      refine lv_aload_n hx hb d_M_echo_33 rfl (lv_at hl 0 rfl) ?_
      refine va_get (D := (dC, dI)) (ci := 3) (v := .int 1) (C := "RoomEchoesModel") (T := FT_M) (N := 12) hx hb hts (hi_ in_M) hown hK hP 0 rfl rfl 0 (by decide) (ht_ hts mw424) (fun _ h9 => h9) rfl d_M_echo_34 ?_
      refine lv_if_le (tgt := 42) hx hb d_M_echo_37 (by decide) (fun c_37 => ?_) (fun c_37 => ?_)
      · skip
        exact absurd c_37 (by decide)
      · skip
        refine lv_lconst (v := 0) hx hb d_M_echo_40 (by decide) ?_
        have hP9 : va_P (dC, dI) vwCl [(aM, .inr (3, [.int 1, .ref mS, .ref mC, .ref mL, .ref mK, .int kn, .ref mQ, .ref mT, .ref mD, .ref mA, .ref mB, .ref mG]))] H := hP
        have hD9 : va_D A [(aM, .inr (3, [.int 1, .ref mS, .ref mC, .ref mL, .ref mK, .int kn, .ref mQ, .ref mT, .ref mD, .ref mA, .ref mB, .ref mG]))] := hD
        exact W.lret (v := 0) hx hb hr (fun t ht hW => ⟨⟨_, (), rfl, rfl, by rw [ht]; exact hP9, hD9⟩, hS.F ht⟩) hS.2.2 d_M_echo_41
    · skip
      exact absurd ⟨in_n (lo := 0) (hi := 499) (by decide) (by decide) c_10, in_n (lo := 0) (hi := 6) (by decide) (by decide) c_22⟩ h

set_option maxHeartbeats 4000000 in
set_option maxRecDepth 100000 in
theorem c_M_place (l : Launch) (dC : Nat → ClassId) (dI : Nat → Nat → Nat) (cI cL : ClassId) (aM : Nat) (th0 : Int32) (kn : Int32) (mS : Nat) (mC : Nat) (mL : Nat) (mK : Nat) (mQ : Nat) (mT : Nat) (mD : Nat) (mA : Nat) (mB : Nat) (mG : Nat) (zs : Nat → Int32) (sc : Nat → Int32) (li : Nat → Int32) (sq : Nat → Int64) (so : Nat → Int64) (ds : Nat → Int64) (as : Nat → Int32) (bs : Nat → Int32) (cs : Nat → Int32) (a : Int32) (b : Int32) (c9 : Int32) (sz : Nat) (hax : ax3k zs sc li) (hR : kn = 0 ∨ (kn = 1 ∧ MRz zs sc li ds as bs cs)) (h : wn3 a b c9) : Met l y_M_place w_M_place ({ frames := 3, cells := 0, slots := 0, locals := 86 }) (wr_P (dC, dI) cI cL [(aM, .inr (3, [.int th0, .ref mS, .ref mC, .ref mL, .ref mK, .int kn, .ref mQ, .ref mT, .ref mD, .ref mA, .ref mB, .ref mG])), (mS, .inl (cI, 3, .inl zs)), (mC, .inl (cI, 3, .inl sc)), (mL, .inl (cI, 3, .inl li)), (mQ, .inl (cL, 243, .inr (.inl sq))), (mT, .inl (cL, 243, .inr (.inl so))), (mD, .inl (cL, 500, .inr (.inl ds))), (mA, .inl (cI, 500, .inl as)), (mB, .inl (cI, 500, .inl bs)), (mG, .inl (cI, 500, .inl cs))] sz [.ref aM, .int a, .int b, .int c9]) (va_Qi (fun (r9 : Int32) (u : (Nat → Int64) × (Nat → Int64) × (Nat → Int64) × (Nat → Int32) × (Nat → Int32) × (Nat → Int32)) => MRz zs sc li u.2.2.1 u.2.2.2.1 u.2.2.2.2.1 u.2.2.2.2.2 ∧ r9 = j_mp u.2.2.2.1 u.2.2.2.2.1 u.2.2.2.2.2 a b c9 500 0 (-1)) (fun u t => va_P (dC, dI) vwCl [(aM, .inr (3, [.int 0, .ref mS, .ref mC, .ref mL, .ref mK, .int 1, .ref mQ, .ref mT, .ref mD, .ref mA, .ref mB, .ref mG])), (mS, .inl (cI, 3, .inl zs)), (mC, .inl (cI, 3, .inl sc)), (mL, .inl (cI, 3, .inl li)), (mQ, .inl (cL, 243, .inr (.inl u.1))), (mT, .inl (cL, 243, .inr (.inl u.2.1))), (mD, .inl (cL, 500, .inr (.inl u.2.2.1))), (mA, .inl (cI, 500, .inl u.2.2.2.1)), (mB, .inl (cI, 500, .inl u.2.2.2.2.1)), (mG, .inl (cI, 500, .inl u.2.2.2.2.2))] t.heap ∧ va_D (va_A [(aM, .inr (3, [.int th0, .ref mS, .ref mC, .ref mL, .ref mK, .int kn, .ref mQ, .ref mT, .ref mD, .ref mA, .ref mB, .ref mG])), (mS, .inl (cI, 3, .inl zs)), (mC, .inl (cI, 3, .inl sc)), (mL, .inl (cI, 3, .inl li)), (mQ, .inl (cL, 243, .inr (.inl sq))), (mT, .inl (cL, 243, .inr (.inl so))), (mD, .inl (cL, 500, .inr (.inl ds))), (mA, .inl (cI, 500, .inl as)), (mB, .inl (cI, 500, .inl bs)), (mG, .inl (cI, 500, .inl cs))] sz) [(aM, .inr (3, [.int 0, .ref mS, .ref mC, .ref mL, .ref mK, .int 1, .ref mQ, .ref mT, .ref mD, .ref mA, .ref mB, .ref mG])), (mS, .inl (cI, 3, .inl zs)), (mC, .inl (cI, 3, .inl sc)), (mL, .inl (cI, 3, .inl li)), (mQ, .inl (cL, 243, .inr (.inl u.1))), (mT, .inl (cL, 243, .inr (.inl u.2.1))), (mD, .inl (cL, 500, .inr (.inl u.2.2.1))), (mA, .inl (cI, 500, .inl u.2.2.2.1)), (mB, .inl (cI, 500, .inl u.2.2.2.2.1)), (mG, .inl (cI, 500, .inl u.2.2.2.2.2))]) (va_A [(aM, .inr (3, [.int th0, .ref mS, .ref mC, .ref mL, .ref mK, .int kn, .ref mQ, .ref mT, .ref mD, .ref mA, .ref mB, .ref mG])), (mS, .inl (cI, 3, .inl zs)), (mC, .inl (cI, 3, .inl sc)), (mL, .inl (cI, 3, .inl li)), (mQ, .inl (cL, 243, .inr (.inl sq))), (mT, .inl (cL, 243, .inr (.inl so))), (mD, .inl (cL, 500, .inr (.inl ds))), (mA, .inl (cI, 500, .inl as)), (mB, .inl (cI, 500, .inl bs)), (mG, .inl (cI, 500, .inl cs))] sz)) 0 0 (va_A [(aM, .inr (3, [.int th0, .ref mS, .ref mC, .ref mL, .ref mK, .int kn, .ref mQ, .ref mT, .ref mD, .ref mA, .ref mB, .ref mG])), (mS, .inl (cI, 3, .inl zs)), (mC, .inl (cI, 3, .inl sc)), (mL, .inl (cI, 3, .inl li)), (mQ, .inl (cL, 243, .inr (.inl sq))), (mT, .inl (cL, 243, .inr (.inl so))), (mD, .inl (cL, 500, .inr (.inl ds))), (mA, .inl (cI, 500, .inl as)), (mB, .inl (cI, 500, .inl bs)), (mG, .inl (cI, 500, .inl cs))] sz) := by
  refine Met.ofW (cc := b_M_place) (maxL := 6) (ret := (some .int)) (by decide) rfl ?_
  intro p e s m args below meth c s₁ B hml hv
  obtain ⟨rfl, hsz, hP, hM, hD0⟩ := hv
  have hx := B.exec
  have hb := B.bytes
  have hr := B.returns
  have hts := atoms_spec (ws := w_M_place) B.pre
  have hown : s.vm.findClass "RoomEchoesModel" = some m.cls := findClass_of_methodNamed B.named
  have hlocks := B.notSynchronized
  have hK := hM.1
  subst hsz
  have hD := hD0.self (sz := s.heap.size)
  generalize hAe : va_A [(aM, .inr (3, [.int th0, .ref mS, .ref mC, .ref mL, .ref mK, .int kn, .ref mQ, .ref mT, .ref mD, .ref mA, .ref mB, .ref mG])), (mS, .inl (cI, 3, .inl zs)), (mC, .inl (cI, 3, .inl sc)), (mL, .inl (cI, 3, .inl li)), (mQ, .inl (cL, 243, .inr (.inl sq))), (mT, .inl (cL, 243, .inr (.inl so))), (mD, .inl (cL, 500, .inr (.inl ds))), (mA, .inl (cI, 500, .inl as)), (mB, .inl (cI, 500, .inl bs)), (mG, .inl (cI, 500, .inl cs))] s.heap.size = A at hD ⊢
  have hA : ∀ q : Nat, s.heap.size ≤ q → A q := fun q h => by rw [← hAe]; exact Or.inr h
  have hS : va_S A s.heap s.heap [] := va_S.rf
  have hP : va_P (dC, dI) vwCl [(aM, .inr (3, [.int th0, .ref mS, .ref mC, .ref mL, .ref mK, .int kn, .ref mQ, .ref mT, .ref mD, .ref mA, .ref mB, .ref mG])), (mS, .inl (cI, 3, .inl zs)), (mC, .inl (cI, 3, .inl sc)), (mL, .inl (cI, 3, .inl li)), (mQ, .inl (cL, 243, .inr (.inl sq))), (mT, .inl (cL, 243, .inr (.inl so))), (mD, .inl (cL, 500, .inr (.inl ds))), (mA, .inl (cI, 500, .inl as)), (mB, .inl (cI, 500, .inl bs)), (mG, .inl (cI, 500, .inl cs))] s.heap := hP
  have hl := lv_entry ([.ref aM, .int a, .int b, .int c9]) (n := 6) (Nat.le_of_ble_eq_true rfl)
  rw [lg_entry_eq]
  generalize (lg_sl ([.ref aM, .int a, .int b, .int c9]) ++ List.replicate (6 - (lg_sl ([.ref aM, .int a, .int b, .int c9])).length) Slot.unset).toArray = ls at hl ⊢
  have hl : lv_has ls 6 [(0, .ref aM), (1, .int a), (2, .int b), (3, .int c9)] := hl
  refine lv_aload_n hx hb d_M_place_0 rfl (lv_at hl 0 rfl) ?_
  refine lv_iload_n hx hb d_M_place_1 rfl (lv_at hl 1 rfl) ?_
  refine lv_iload_n hx hb d_M_place_2 rfl (lv_at hl 2 rfl) ?_
  refine lv_iload_n hx hb d_M_place_3 rfl (lv_at hl 3 rfl) ?_
  refine rd_c (va_runS (As := [.int a, .int b, .int c9]) (rest := [.ref aM]) ⟨hx, hb, hml, hown, hts⟩ (c_M_isImage l a b c9) (cwS 3 hts (gi_S mw492 mw490 mw491 mw33) rfl rfl rfl (by decide +kernel) ⟨Nat.le_of_ble_eq_true rfl, Nat.le_of_ble_eq_true rfl⟩) st_S rfl rfl hl.1 rfl (lv_room (Nat.le_of_ble_eq_true rfl)) d_M_place_4 ⟨Nat.le_of_ble_eq_true rfl, Nat.le_of_ble_eq_true rfl⟩) ?_
  refine tp_i 1 (im_yes h) ?_
  refine lv_if_eq (tgt := 14) hx hb d_M_place_7 (by decide) (fun c_7 => ?_) (fun c_7 => ?_)
  · skip
    exact absurd c_7 (by decide)
  · skip
    refine lv_iconst (v := 0) hx hb d_M_place_10 (by decide) ?_
    refine lv_goto (tgt := 15) hx hb d_M_place_11 (by decide) ?_
    refine va_put (D := (dC, dI)) (ci := 3) (v := .int 0) (ty := .int) (C := "RoomEchoesModel") (T := FT_M) (N := 12) hx hb hts (hi_ in_M) ty_M tyo_M nm_M hown hK hP hD hS 0 rfl rfl 0 (by decide) (ht_ hts mw424) (fun _ h9 => h9) rfl (by decide +kernel) rfl rfl (Nat.le_of_ble_eq_true rfl) d_M_place_15 (fun H locs hP hD hS => ?_)
    have hP : va_P (dC, dI) vwCl [(aM, .inr (3, [.int 0, .ref mS, .ref mC, .ref mL, .ref mK, .int kn, .ref mQ, .ref mT, .ref mD, .ref mA, .ref mB, .ref mG])), (mS, .inl (cI, 3, .inl zs)), (mC, .inl (cI, 3, .inl sc)), (mL, .inl (cI, 3, .inl li)), (mQ, .inl (cL, 243, .inr (.inl sq))), (mT, .inl (cL, 243, .inr (.inl so))), (mD, .inl (cL, 500, .inr (.inl ds))), (mA, .inl (cI, 500, .inl as)), (mB, .inl (cI, 500, .inl bs)), (mG, .inl (cI, 500, .inl cs))] H := hP
    have hD : va_D A [(aM, .inr (3, [.int 0, .ref mS, .ref mC, .ref mL, .ref mK, .int kn, .ref mQ, .ref mT, .ref mD, .ref mA, .ref mB, .ref mG])), (mS, .inl (cI, 3, .inl zs)), (mC, .inl (cI, 3, .inl sc)), (mL, .inl (cI, 3, .inl li)), (mQ, .inl (cL, 243, .inr (.inl sq))), (mT, .inl (cL, 243, .inr (.inl so))), (mD, .inl (cL, 500, .inr (.inl ds))), (mA, .inl (cI, 500, .inl as)), (mB, .inl (cI, 500, .inl bs)), (mG, .inl (cI, 500, .inl cs))] := hD
    refine lv_aload_n hx hb d_M_place_18 rfl (lv_at hl 0 rfl) ?_
    refine va_get (D := (dC, dI)) (ci := 3) (v := .int 0) (C := "RoomEchoesModel") (T := FT_M) (N := 12) hx hb hts (hi_ in_M) hown hK hP 0 rfl rfl 0 (by decide) (ht_ hts mw424) (fun _ h9 => h9) rfl d_M_place_19 ?_
    refine lv_if_le (tgt := 27) hx hb d_M_place_22 (by decide) (fun c_22 => ?_) (fun c_22 => ?_)
    · skip
      refine lv_aload_n hx hb d_M_place_27 rfl (lv_at hl 0 rfl) ?_
      have hPc := hP.sub (ws' := [(aM, .inr (3, [.int 0, .ref mS, .ref mC, .ref mL, .ref mK, .int kn, .ref mQ, .ref mT, .ref mD, .ref mA, .ref mB, .ref mG])), (mS, .inl (cI, 3, .inl zs)), (mC, .inl (cI, 3, .inl sc)), (mL, .inl (cI, 3, .inl li)), (mQ, .inl (cL, 243, .inr (.inl sq))), (mT, .inl (cL, 243, .inr (.inl so))), (mD, .inl (cL, 500, .inr (.inl ds))), (mA, .inl (cI, 500, .inl as)), (mB, .inl (cI, 500, .inl bs)), (mG, .inl (cI, 500, .inl cs))]) [0, 1, 2, 3, 4, 5, 6, 7, 8, 9] rfl
      have hDc := hD.sub (ws' := [(aM, .inr (3, [.int 0, .ref mS, .ref mC, .ref mL, .ref mK, .int kn, .ref mQ, .ref mT, .ref mD, .ref mA, .ref mB, .ref mG])), (mS, .inl (cI, 3, .inl zs)), (mC, .inl (cI, 3, .inl sc)), (mL, .inl (cI, 3, .inl li)), (mQ, .inl (cL, 243, .inr (.inl sq))), (mT, .inl (cL, 243, .inr (.inl so))), (mD, .inl (cL, 500, .inr (.inl ds))), (mA, .inl (cI, 500, .inl as)), (mB, .inl (cI, 500, .inl bs)), (mG, .inl (cI, 500, .inl cs))]) [0, 1, 2, 3, 4, 5, 6, 7, 8, 9] (by decide) rfl
      refine wx_cv (wr := []) (w1 := fun (u : (Nat → Int64) × (Nat → Int64) × (Nat → Int64) × (Nat → Int32) × (Nat → Int32) × (Nat → Int32)) => [(aM, .inr (3, [.int 0, .ref mS, .ref mC, .ref mL, .ref mK, .int 1, .ref mQ, .ref mT, .ref mD, .ref mA, .ref mB, .ref mG])), (mS, .inl (cI, 3, .inl zs)), (mC, .inl (cI, 3, .inl sc)), (mL, .inl (cI, 3, .inl li)), (mQ, .inl (cL, 243, .inr (.inl u.1))), (mT, .inl (cL, 243, .inr (.inl u.2.1))), (mD, .inl (cL, 500, .inr (.inl u.2.2.1))), (mA, .inl (cI, 500, .inl u.2.2.2.1)), (mB, .inl (cI, 500, .inl u.2.2.2.2.1)), (mG, .inl (cI, 500, .inl u.2.2.2.2.2))]) hP hD hS hA [0, 1, 2, 3, 4, 5, 6, 7, 8, 9] [] rfl rfl (by decide) (by decide) (va_runV (As := []) (rest := []) ⟨hx, hb, hml, hown, hts⟩ (c_M_make l dC dI cI cL aM 0 kn mS mC mL mK mQ mT mD mA mB mG zs sc li sq so ds as bs cs _ hax hR) (cwV 0 hts (gi_V mw535 mw532 mw534 mw20 mw33) rfl rfl rfl (by decide +kernel) ⟨Nat.le_of_ble_eq_true rfl, Nat.le_of_ble_eq_true rfl⟩) (wr_V hM hPc hDc rfl rfl rfl) rfl rfl hl.1 rfl (lv_room (Nat.le_of_ble_eq_true rfl)) d_M_place_28 ⟨Nat.le_of_ble_eq_true rfl, Nat.le_of_ble_eq_true rfl⟩) (fun u H locs hu_7 hP hD hS => ?_)
      obtain ⟨sq9_1, so9_2, ds9_3, as9_4, bs9_5, cs9_6⟩ := u
      have hu_7 : MRz zs sc li ds9_3 as9_4 bs9_5 cs9_6 ∧ (kn = 1 → ds9_3 = ds ∧ as9_4 = as ∧ bs9_5 = bs ∧ cs9_6 = cs) := hu_7
      have hP := hP.sub (ws' := [(aM, .inr (3, [.int 0, .ref mS, .ref mC, .ref mL, .ref mK, .int 1, .ref mQ, .ref mT, .ref mD, .ref mA, .ref mB, .ref mG])), (mS, .inl (cI, 3, .inl zs)), (mC, .inl (cI, 3, .inl sc)), (mL, .inl (cI, 3, .inl li)), (mQ, .inl (cL, 243, .inr (.inl sq9_1))), (mT, .inl (cL, 243, .inr (.inl so9_2))), (mD, .inl (cL, 500, .inr (.inl ds9_3))), (mA, .inl (cI, 500, .inl as9_4)), (mB, .inl (cI, 500, .inl bs9_5)), (mG, .inl (cI, 500, .inl cs9_6))]) [0, 1, 2, 3, 4, 5, 6, 7, 8, 9] rfl
      have hD := hD.sub (ws' := [(aM, .inr (3, [.int 0, .ref mS, .ref mC, .ref mL, .ref mK, .int 1, .ref mQ, .ref mT, .ref mD, .ref mA, .ref mB, .ref mG])), (mS, .inl (cI, 3, .inl zs)), (mC, .inl (cI, 3, .inl sc)), (mL, .inl (cI, 3, .inl li)), (mQ, .inl (cL, 243, .inr (.inl sq9_1))), (mT, .inl (cL, 243, .inr (.inl so9_2))), (mD, .inl (cL, 500, .inr (.inl ds9_3))), (mA, .inl (cI, 500, .inl as9_4)), (mB, .inl (cI, 500, .inl bs9_5)), (mG, .inl (cI, 500, .inl cs9_6))]) [0, 1, 2, 3, 4, 5, 6, 7, 8, 9] (by decide) rfl
      refine lv_iconst (v := (-1)) hx hb d_M_place_31 (by decide) ?_
      refine lv_istore (lv' := [(4, .int (-1)), (0, .ref aM), (1, .int a), (2, .int b), (3, .int c9)]) hx hb d_M_place_32 hl (by decide) rfl (fun ls hl => ?_)
      refine lv_iconst (v := 0) hx hb d_M_place_34 (by decide) ?_
      refine lv_istore (lv' := [(5, .int 0), (4, .int (-1)), (0, .ref aM), (1, .int a), (2, .int b), (3, .int c9)]) hx hb d_M_place_35 hl (by decide) rfl (fun ls hl => ?_)
      have lp : ∀ (n9 : Nat) (i : Nat) (r : Int32), 500 < i + n9 → i ≤ 500 → j_mp as9_4 bs9_5 cs9_6 a b c9 (500 - i) i r = j_mp as9_4 bs9_5 cs9_6 a b c9 500 0 (-1) → ∀ (H : Heap) (locs : List Loc), va_P (dC, dI) vwCl [(aM, .inr (3, [.int 0, .ref mS, .ref mC, .ref mL, .ref mK, .int 1, .ref mQ, .ref mT, .ref mD, .ref mA, .ref mB, .ref mG])), (mS, .inl (cI, 3, .inl zs)), (mC, .inl (cI, 3, .inl sc)), (mL, .inl (cI, 3, .inl li)), (mQ, .inl (cL, 243, .inr (.inl sq9_1))), (mT, .inl (cL, 243, .inr (.inl so9_2))), (mD, .inl (cL, 500, .inr (.inl ds9_3))), (mA, .inl (cI, 500, .inl as9_4)), (mB, .inl (cI, 500, .inl bs9_5)), (mG, .inl (cI, 500, .inl cs9_6))] H → va_D A [(aM, .inr (3, [.int 0, .ref mS, .ref mC, .ref mL, .ref mK, .int 1, .ref mQ, .ref mT, .ref mD, .ref mA, .ref mB, .ref mG])), (mS, .inl (cI, 3, .inl zs)), (mC, .inl (cI, 3, .inl sc)), (mL, .inl (cI, 3, .inl li)), (mQ, .inl (cL, 243, .inr (.inl sq9_1))), (mT, .inl (cL, 243, .inr (.inl so9_2))), (mD, .inl (cL, 500, .inr (.inl ds9_3))), (mA, .inl (cI, 500, .inl as9_4)), (mB, .inl (cI, 500, .inl bs9_5)), (mG, .inl (cI, 500, .inl cs9_6))] → va_S A s.heap H locs → ∀ (ls : Array Slot), lv_has ls 6 [(5, .int (nI i)), (4, .int r), (0, .ref aM), (1, .int a), (2, .int b), (3, .int c9)] → W p l e (headSpec w_M_place ({ frames := 3, cells := 0, slots := 0, locals := 86 })).room s m ([.ref aM, .int a, .int b, .int c9] : List Value).toArray below meth c H locs 0 0 (MQ below (va_Qi (fun (r9 : Int32) (u : (Nat → Int64) × (Nat → Int64) × (Nat → Int64) × (Nat → Int32) × (Nat → Int32) × (Nat → Int32)) => MRz zs sc li u.2.2.1 u.2.2.2.1 u.2.2.2.2.1 u.2.2.2.2.2 ∧ r9 = j_mp u.2.2.2.1 u.2.2.2.2.1 u.2.2.2.2.2 a b c9 500 0 (-1)) (fun u t => va_P (dC, dI) vwCl [(aM, .inr (3, [.int 0, .ref mS, .ref mC, .ref mL, .ref mK, .int 1, .ref mQ, .ref mT, .ref mD, .ref mA, .ref mB, .ref mG])), (mS, .inl (cI, 3, .inl zs)), (mC, .inl (cI, 3, .inl sc)), (mL, .inl (cI, 3, .inl li)), (mQ, .inl (cL, 243, .inr (.inl u.1))), (mT, .inl (cL, 243, .inr (.inl u.2.1))), (mD, .inl (cL, 500, .inr (.inl u.2.2.1))), (mA, .inl (cI, 500, .inl u.2.2.2.1)), (mB, .inl (cI, 500, .inl u.2.2.2.2.1)), (mG, .inl (cI, 500, .inl u.2.2.2.2.2))] t.heap ∧ va_D A [(aM, .inr (3, [.int 0, .ref mS, .ref mC, .ref mL, .ref mK, .int 1, .ref mQ, .ref mT, .ref mD, .ref mA, .ref mB, .ref mG])), (mS, .inl (cI, 3, .inl zs)), (mC, .inl (cI, 3, .inl sc)), (mL, .inl (cI, 3, .inl li)), (mQ, .inl (cL, 243, .inr (.inl u.1))), (mT, .inl (cL, 243, .inr (.inl u.2.1))), (mD, .inl (cL, 500, .inr (.inl u.2.2.1))), (mA, .inl (cI, 500, .inl u.2.2.2.1)), (mB, .inl (cI, 500, .inl u.2.2.2.2.1)), (mG, .inl (cI, 500, .inl u.2.2.2.2.2))]) A) ([.ref aM, .int a, .int b, .int c9] : List Value).toArray s 0 0 A) (F0 m 37 ls []) := by
        intro n9
        induction n9 with
        | zero => intro i r hn hi hj H locs hP hD hS ls hl; omega
        | succ n9 ih =>
          intro i r hn hi hj H locs hP hD hS ls hl
          refine lv_iload hx hb d_M_place_37 (lv_at hl 0 rfl) ?_
          refine lv_sipush (v := 500) hx hb d_M_place_39 (by decide) ?_
          refine lv_icmp_ge (tgt := 93) hx hb d_M_place_42 (by decide) (fun c_42 => ?_) (fun c_42 => ?_)
          · skip
            refine lv_iload hx hb d_M_place_93 (lv_at hl 1 rfl) ?_
            have hP9 : va_P (dC, dI) vwCl [(aM, .inr (3, [.int 0, .ref mS, .ref mC, .ref mL, .ref mK, .int 1, .ref mQ, .ref mT, .ref mD, .ref mA, .ref mB, .ref mG])), (mS, .inl (cI, 3, .inl zs)), (mC, .inl (cI, 3, .inl sc)), (mL, .inl (cI, 3, .inl li)), (mQ, .inl (cL, 243, .inr (.inl sq9_1))), (mT, .inl (cL, 243, .inr (.inl so9_2))), (mD, .inl (cL, 500, .inr (.inl ds9_3))), (mA, .inl (cI, 500, .inl as9_4)), (mB, .inl (cI, 500, .inl bs9_5)), (mG, .inl (cI, 500, .inl cs9_6))] _ := hP
            have hD9 : va_D A [(aM, .inr (3, [.int 0, .ref mS, .ref mC, .ref mL, .ref mK, .int 1, .ref mQ, .ref mT, .ref mD, .ref mA, .ref mB, .ref mG])), (mS, .inl (cI, 3, .inl zs)), (mC, .inl (cI, 3, .inl sc)), (mL, .inl (cI, 3, .inl li)), (mQ, .inl (cL, 243, .inr (.inl sq9_1))), (mT, .inl (cL, 243, .inr (.inl so9_2))), (mD, .inl (cL, 500, .inr (.inl ds9_3))), (mA, .inl (cI, 500, .inl as9_4)), (mB, .inl (cI, 500, .inl bs9_5)), (mG, .inl (cI, 500, .inl cs9_6))] := hD
            exact W.iret (v := r) hx hb hr (fun t ht hW => ⟨⟨_, (sq9_1, so9_2, ds9_3, as9_4, bs9_5, cs9_6), rfl, ⟨hu_7.1, by rw [← hj, show 500 - i = 0 by have : 500 ≤ i := nu_end (x := 500) (by omega) c_42; omega]; rfl⟩, by rw [ht]; exact hP9, hD9⟩, hS.F ht⟩) hS.2.2 d_M_place_95
          · skip
            have i5 : i < 500 := nu_on (x := 500) (by omega) c_42
            refine lv_aload_n hx hb d_M_place_45 rfl (lv_at hl 2 rfl) ?_
            refine va_get (D := (dC, dI)) (ci := 3) (v := .ref mA) (C := "RoomEchoesModel") (T := FT_M) (N := 12) hx hb hts (hi_ in_M) hown hK hP 0 rfl rfl 9 (by decide) (ht_ hts mw433) (fun _ h9 => h9) rfl d_M_place_46 ?_
            refine lv_iload hx hb d_M_place_49 (lv_at hl 0 rfl) ?_
            refine va_iald hx hb hK hP 7 0 rfl rfl (vp_in_nI (by omega) (by omega)) d_M_place_51 ?_
            refine tp_i (as9_4 i) (by rw [nI_clamp (by omega)]) ?_
            refine lv_iload_n hx hb d_M_place_52 rfl (lv_at hl 3 rfl) ?_
            refine lv_icmp_ne (tgt := 83) hx hb d_M_place_53 (by decide) (fun c_53 => ?_) (fun c_53 => ?_)
            · skip
              refine lv_iload hx hb d_M_place_83 (lv_at hl 1 rfl) ?_
              refine lv_istore (lv' := [(4, .int r), (5, .int (nI i)), (0, .ref aM), (1, .int a), (2, .int b), (3, .int c9)]) hx hb d_M_place_85 hl (by decide) rfl (fun ls hl => ?_)
              refine lv_iinc (v := nI (i + 1)) (lv' := [(5, .int (nI (i + 1))), (4, .int r), (0, .ref aM), (1, .int a), (2, .int b), (3, .int c9)]) hx hb d_M_place_87 hl (k := 1) rfl (nI_succ _).symm (by decide) rfl (fun ls hl => ?_)
              refine lv_goto (tgt := 37) hx hb d_M_place_90 (by decide) ?_
              exact ih (i + 1) _ (by omega) (by omega) (by rw [← hj, show 500 - i = 500 - (i + 1) + 1 by omega]; exact congrArg (fun x => j_mp as9_4 bs9_5 cs9_6 a b c9 (500 - (i + 1)) (i + 1) x) (if_neg (fun q => c_53 q.1)).symm) _ _ hP hD hS ls (lv_sub hl [0, 1, 2, 3, 4, 5] rfl)
            · skip
              refine lv_aload_n hx hb d_M_place_56 rfl (lv_at hl 2 rfl) ?_
              refine va_get (D := (dC, dI)) (ci := 3) (v := .ref mB) (C := "RoomEchoesModel") (T := FT_M) (N := 12) hx hb hts (hi_ in_M) hown hK hP 0 rfl rfl 10 (by decide) (ht_ hts mw434) (fun _ h9 => h9) rfl d_M_place_57 ?_
              refine lv_iload hx hb d_M_place_60 (lv_at hl 0 rfl) ?_
              refine va_iald hx hb hK hP 8 0 rfl rfl (vp_in_nI (by omega) (by omega)) d_M_place_62 ?_
              refine tp_i (bs9_5 i) (by rw [nI_clamp (by omega)]) ?_
              refine lv_iload_n hx hb d_M_place_63 rfl (lv_at hl 4 rfl) ?_
              refine lv_icmp_ne (tgt := 83) hx hb d_M_place_64 (by decide) (fun c_64 => ?_) (fun c_64 => ?_)
              · skip
                refine lv_iload hx hb d_M_place_83 (lv_at hl 1 rfl) ?_
                refine lv_istore (lv' := [(4, .int r), (5, .int (nI i)), (0, .ref aM), (1, .int a), (2, .int b), (3, .int c9)]) hx hb d_M_place_85 hl (by decide) rfl (fun ls hl => ?_)
                refine lv_iinc (v := nI (i + 1)) (lv' := [(5, .int (nI (i + 1))), (4, .int r), (0, .ref aM), (1, .int a), (2, .int b), (3, .int c9)]) hx hb d_M_place_87 hl (k := 1) rfl (nI_succ _).symm (by decide) rfl (fun ls hl => ?_)
                refine lv_goto (tgt := 37) hx hb d_M_place_90 (by decide) ?_
                exact ih (i + 1) _ (by omega) (by omega) (by rw [← hj, show 500 - i = 500 - (i + 1) + 1 by omega]; exact congrArg (fun x => j_mp as9_4 bs9_5 cs9_6 a b c9 (500 - (i + 1)) (i + 1) x) (if_neg (fun q => c_64 q.2.1)).symm) _ _ hP hD hS ls (lv_sub hl [0, 1, 2, 3, 4, 5] rfl)
              · skip
                refine lv_aload_n hx hb d_M_place_67 rfl (lv_at hl 2 rfl) ?_
                refine va_get (D := (dC, dI)) (ci := 3) (v := .ref mG) (C := "RoomEchoesModel") (T := FT_M) (N := 12) hx hb hts (hi_ in_M) hown hK hP 0 rfl rfl 11 (by decide) (ht_ hts mw435) (fun _ h9 => h9) rfl d_M_place_68 ?_
                refine lv_iload hx hb d_M_place_71 (lv_at hl 0 rfl) ?_
                refine va_iald hx hb hK hP 9 0 rfl rfl (vp_in_nI (by omega) (by omega)) d_M_place_73 ?_
                refine tp_i (cs9_6 i) (by rw [nI_clamp (by omega)]) ?_
                refine lv_iload_n hx hb d_M_place_74 rfl (lv_at hl 5 rfl) ?_
                refine lv_icmp_ne (tgt := 83) hx hb d_M_place_75 (by decide) (fun c_75 => ?_) (fun c_75 => ?_)
                · skip
                  refine lv_iload hx hb d_M_place_83 (lv_at hl 1 rfl) ?_
                  refine lv_istore (lv' := [(4, .int r), (5, .int (nI i)), (0, .ref aM), (1, .int a), (2, .int b), (3, .int c9)]) hx hb d_M_place_85 hl (by decide) rfl (fun ls hl => ?_)
                  refine lv_iinc (v := nI (i + 1)) (lv' := [(5, .int (nI (i + 1))), (4, .int r), (0, .ref aM), (1, .int a), (2, .int b), (3, .int c9)]) hx hb d_M_place_87 hl (k := 1) rfl (nI_succ _).symm (by decide) rfl (fun ls hl => ?_)
                  refine lv_goto (tgt := 37) hx hb d_M_place_90 (by decide) ?_
                  exact ih (i + 1) _ (by omega) (by omega) (by rw [← hj, show 500 - i = 500 - (i + 1) + 1 by omega]; exact congrArg (fun x => j_mp as9_4 bs9_5 cs9_6 a b c9 (500 - (i + 1)) (i + 1) x) (if_neg (fun q => c_75 q.2.2)).symm) _ _ hP hD hS ls (lv_sub hl [0, 1, 2, 3, 4, 5] rfl)
                · skip
                  refine lv_iload hx hb d_M_place_78 (lv_at hl 0 rfl) ?_
                  refine lv_goto (tgt := 85) hx hb d_M_place_80 (by decide) ?_
                  refine lv_istore (lv' := [(4, .int (nI i)), (5, .int (nI i)), (0, .ref aM), (1, .int a), (2, .int b), (3, .int c9)]) hx hb d_M_place_85 hl (by decide) rfl (fun ls hl => ?_)
                  refine lv_iinc (v := nI (i + 1)) (lv' := [(5, .int (nI (i + 1))), (4, .int (nI i)), (0, .ref aM), (1, .int a), (2, .int b), (3, .int c9)]) hx hb d_M_place_87 hl (k := 1) rfl (nI_succ _).symm (by decide) rfl (fun ls hl => ?_)
                  refine lv_goto (tgt := 37) hx hb d_M_place_90 (by decide) ?_
                  exact ih (i + 1) _ (by omega) (by omega) (by rw [← hj, show 500 - i = 500 - (i + 1) + 1 by omega]; exact congrArg (fun x => j_mp as9_4 bs9_5 cs9_6 a b c9 (500 - (i + 1)) (i + 1) x) (if_pos ⟨c_53, c_64, c_75⟩).symm) _ _ hP hD hS ls (lv_sub hl [0, 1, 2, 3, 4, 5] rfl)
      exact lp 501 0 (-1) (by omega) (by omega) rfl _ _ hP hD hS ls (lv_sub hl [0, 1, 2, 3, 4, 5] rfl)
    · skip
      exact absurd (by decide) c_22

set_option maxHeartbeats 4000000 in
set_option maxRecDepth 100000 in
theorem n_M_place (l : Launch) (dC : Nat → ClassId) (dI : Nat → Nat → Nat) (cI cL : ClassId) (aM : Nat) (th0 : Int32) (kn : Int32) (mS : Nat) (mC : Nat) (mL : Nat) (mK : Nat) (mQ : Nat) (mT : Nat) (mD : Nat) (mA : Nat) (mB : Nat) (mG : Nat) (a : Int32) (b : Int32) (c9 : Int32) (sz : Nat) (h : ¬ (wn3 a b c9)) : Met l y_M_place w_M_place ({ frames := 2, cells := 0, slots := 0, locals := 47 }) (wr_P (dC, dI) cI cL [(aM, .inr (3, [.int th0, .ref mS, .ref mC, .ref mL, .ref mK, .int kn, .ref mQ, .ref mT, .ref mD, .ref mA, .ref mB, .ref mG]))] sz [.ref aM, .int a, .int b, .int c9]) (wr_i 0 (dC, dI) (va_A [(aM, .inr (3, [.int th0, .ref mS, .ref mC, .ref mL, .ref mK, .int kn, .ref mQ, .ref mT, .ref mD, .ref mA, .ref mB, .ref mG]))] sz) [(aM, .inr (3, [.int 1, .ref mS, .ref mC, .ref mL, .ref mK, .int kn, .ref mQ, .ref mT, .ref mD, .ref mA, .ref mB, .ref mG]))]) 0 0 (va_A [(aM, .inr (3, [.int th0, .ref mS, .ref mC, .ref mL, .ref mK, .int kn, .ref mQ, .ref mT, .ref mD, .ref mA, .ref mB, .ref mG]))] sz) := by
  refine Met.ofW (cc := b_M_place) (maxL := 6) (ret := (some .int)) (by decide) rfl ?_
  intro p e s m args below meth c s₁ B hml hv
  obtain ⟨rfl, hsz, hP, hM, hD0⟩ := hv
  have hx := B.exec
  have hb := B.bytes
  have hr := B.returns
  have hts := atoms_spec (ws := w_M_place) B.pre
  have hown : s.vm.findClass "RoomEchoesModel" = some m.cls := findClass_of_methodNamed B.named
  have hlocks := B.notSynchronized
  have hK := hM.1
  subst hsz
  have hD := hD0.self (sz := s.heap.size)
  generalize hAe : va_A [(aM, .inr (3, [.int th0, .ref mS, .ref mC, .ref mL, .ref mK, .int kn, .ref mQ, .ref mT, .ref mD, .ref mA, .ref mB, .ref mG]))] s.heap.size = A at hD ⊢
  have hA : ∀ q : Nat, s.heap.size ≤ q → A q := fun q h => by rw [← hAe]; exact Or.inr h
  have hS : va_S A s.heap s.heap [] := va_S.rf
  have hP : va_P (dC, dI) vwCl [(aM, .inr (3, [.int th0, .ref mS, .ref mC, .ref mL, .ref mK, .int kn, .ref mQ, .ref mT, .ref mD, .ref mA, .ref mB, .ref mG]))] s.heap := hP
  have hl := lv_entry ([.ref aM, .int a, .int b, .int c9]) (n := 6) (Nat.le_of_ble_eq_true rfl)
  rw [lg_entry_eq]
  generalize (lg_sl ([.ref aM, .int a, .int b, .int c9]) ++ List.replicate (6 - (lg_sl ([.ref aM, .int a, .int b, .int c9])).length) Slot.unset).toArray = ls at hl ⊢
  have hl : lv_has ls 6 [(0, .ref aM), (1, .int a), (2, .int b), (3, .int c9)] := hl
  refine lv_aload_n hx hb d_M_place_0 rfl (lv_at hl 0 rfl) ?_
  refine lv_iload_n hx hb d_M_place_1 rfl (lv_at hl 1 rfl) ?_
  refine lv_iload_n hx hb d_M_place_2 rfl (lv_at hl 2 rfl) ?_
  refine lv_iload_n hx hb d_M_place_3 rfl (lv_at hl 3 rfl) ?_
  refine rd_c (va_runS (As := [.int a, .int b, .int c9]) (rest := [.ref aM]) ⟨hx, hb, hml, hown, hts⟩ (c_M_isImage l a b c9) (cwS 3 hts (gi_S mw492 mw490 mw491 mw33) rfl rfl rfl (by decide +kernel) ⟨Nat.le_of_ble_eq_true rfl, Nat.le_of_ble_eq_true rfl⟩) st_S rfl rfl hl.1 rfl (lv_room (Nat.le_of_ble_eq_true rfl)) d_M_place_4 ⟨Nat.le_of_ble_eq_true rfl, Nat.le_of_ble_eq_true rfl⟩) ?_
  refine tp_i 0 (im_no h) ?_
  refine lv_if_eq (tgt := 14) hx hb d_M_place_7 (by decide) (fun c_7 => ?_) (fun c_7 => ?_)
  · skip
    refine lv_iconst (v := 1) hx hb d_M_place_14 (by decide) ?_
    refine va_put (D := (dC, dI)) (ci := 3) (v := .int 1) (ty := .int) (C := "RoomEchoesModel") (T := FT_M) (N := 12) hx hb hts (hi_ in_M) ty_M tyo_M nm_M hown hK hP hD hS 0 rfl rfl 0 (by decide) (ht_ hts mw424) (fun _ h9 => h9) rfl (by decide +kernel) rfl rfl (Nat.le_of_ble_eq_true rfl) d_M_place_15 (fun H locs hP hD hS => ?_)
    have hP : va_P (dC, dI) vwCl [(aM, .inr (3, [.int 1, .ref mS, .ref mC, .ref mL, .ref mK, .int kn, .ref mQ, .ref mT, .ref mD, .ref mA, .ref mB, .ref mG]))] H := hP
    have hD : va_D A [(aM, .inr (3, [.int 1, .ref mS, .ref mC, .ref mL, .ref mK, .int kn, .ref mQ, .ref mT, .ref mD, .ref mA, .ref mB, .ref mG]))] := hD
    refine lv_aload_n hx hb d_M_place_18 rfl (lv_at hl 0 rfl) ?_
    refine va_get (D := (dC, dI)) (ci := 3) (v := .int 1) (C := "RoomEchoesModel") (T := FT_M) (N := 12) hx hb hts (hi_ in_M) hown hK hP 0 rfl rfl 0 (by decide) (ht_ hts mw424) (fun _ h9 => h9) rfl d_M_place_19 ?_
    refine lv_if_le (tgt := 27) hx hb d_M_place_22 (by decide) (fun c_22 => ?_) (fun c_22 => ?_)
    · skip
      exact absurd c_22 (by decide)
    · skip
      refine lv_iconst (v := 0) hx hb d_M_place_25 (by decide) ?_
      have hP9 : va_P (dC, dI) vwCl [(aM, .inr (3, [.int 1, .ref mS, .ref mC, .ref mL, .ref mK, .int kn, .ref mQ, .ref mT, .ref mD, .ref mA, .ref mB, .ref mG]))] H := hP
      have hD9 : va_D A [(aM, .inr (3, [.int 1, .ref mS, .ref mC, .ref mL, .ref mK, .int kn, .ref mQ, .ref mT, .ref mD, .ref mA, .ref mB, .ref mG]))] := hD
      exact W.iret (v := 0) hx hb hr (fun t ht hW => ⟨⟨_, (), rfl, rfl, by rw [ht]; exact hP9, hD9⟩, hS.F ht⟩) hS.2.2 d_M_place_26
  · skip
    exact absurd (by decide) c_7

set_option maxHeartbeats 4000000 in
set_option maxRecDepth 100000 in
theorem c_M_until (l : Launch) (dC : Nat → ClassId) (dI : Nat → Nat → Nat) (cI cL : ClassId) (aM : Nat) (th0 : Int32) (kn : Int32) (mS : Nat) (mC : Nat) (mL : Nat) (mK : Nat) (mQ : Nat) (mT : Nat) (mD : Nat) (mA : Nat) (mB : Nat) (mG : Nat) (zs : Nat → Int32) (sc : Nat → Int32) (li : Nat → Int32) (sq : Nat → Int64) (so : Nat → Int64) (ds : Nat → Int64) (as : Nat → Int32) (bs : Nat → Int32) (cs : Nat → Int32) (d : Int64) (sz : Nat) (hax : ax3k zs sc li) (hR : kn = 0 ∨ (kn = 1 ∧ MRz zs sc li ds as bs cs)) (h : 0 ≤ d) : Met l y_M_until w_M_until ({ frames := 4, cells := 0, slots := 0, locals := 109 }) (wr_P (dC, dI) cI cL [(aM, .inr (3, [.int th0, .ref mS, .ref mC, .ref mL, .ref mK, .int kn, .ref mQ, .ref mT, .ref mD, .ref mA, .ref mB, .ref mG])), (mS, .inl (cI, 3, .inl zs)), (mC, .inl (cI, 3, .inl sc)), (mL, .inl (cI, 3, .inl li)), (mQ, .inl (cL, 243, .inr (.inl sq))), (mT, .inl (cL, 243, .inr (.inl so))), (mD, .inl (cL, 500, .inr (.inl ds))), (mA, .inl (cI, 500, .inl as)), (mB, .inl (cI, 500, .inl bs)), (mG, .inl (cI, 500, .inl cs))] sz [.ref aM, .long d]) (va_Qi (fun (r9 : Int32) (u : (Nat → Int64) × (Nat → Int64) × (Nat → Int64) × (Nat → Int32) × (Nat → Int32) × (Nat → Int32)) => MRz zs sc li u.2.2.1 u.2.2.2.1 u.2.2.2.2.1 u.2.2.2.2.2 ∧ r9 = nI (j_cu u.2.2.1 d 500 0)) (fun u t => va_P (dC, dI) vwCl [(aM, .inr (3, [.int 0, .ref mS, .ref mC, .ref mL, .ref mK, .int 1, .ref mQ, .ref mT, .ref mD, .ref mA, .ref mB, .ref mG])), (mS, .inl (cI, 3, .inl zs)), (mC, .inl (cI, 3, .inl sc)), (mL, .inl (cI, 3, .inl li)), (mQ, .inl (cL, 243, .inr (.inl u.1))), (mT, .inl (cL, 243, .inr (.inl u.2.1))), (mD, .inl (cL, 500, .inr (.inl u.2.2.1))), (mA, .inl (cI, 500, .inl u.2.2.2.1)), (mB, .inl (cI, 500, .inl u.2.2.2.2.1)), (mG, .inl (cI, 500, .inl u.2.2.2.2.2))] t.heap ∧ va_D (va_A [(aM, .inr (3, [.int th0, .ref mS, .ref mC, .ref mL, .ref mK, .int kn, .ref mQ, .ref mT, .ref mD, .ref mA, .ref mB, .ref mG])), (mS, .inl (cI, 3, .inl zs)), (mC, .inl (cI, 3, .inl sc)), (mL, .inl (cI, 3, .inl li)), (mQ, .inl (cL, 243, .inr (.inl sq))), (mT, .inl (cL, 243, .inr (.inl so))), (mD, .inl (cL, 500, .inr (.inl ds))), (mA, .inl (cI, 500, .inl as)), (mB, .inl (cI, 500, .inl bs)), (mG, .inl (cI, 500, .inl cs))] sz) [(aM, .inr (3, [.int 0, .ref mS, .ref mC, .ref mL, .ref mK, .int 1, .ref mQ, .ref mT, .ref mD, .ref mA, .ref mB, .ref mG])), (mS, .inl (cI, 3, .inl zs)), (mC, .inl (cI, 3, .inl sc)), (mL, .inl (cI, 3, .inl li)), (mQ, .inl (cL, 243, .inr (.inl u.1))), (mT, .inl (cL, 243, .inr (.inl u.2.1))), (mD, .inl (cL, 500, .inr (.inl u.2.2.1))), (mA, .inl (cI, 500, .inl u.2.2.2.1)), (mB, .inl (cI, 500, .inl u.2.2.2.2.1)), (mG, .inl (cI, 500, .inl u.2.2.2.2.2))]) (va_A [(aM, .inr (3, [.int th0, .ref mS, .ref mC, .ref mL, .ref mK, .int kn, .ref mQ, .ref mT, .ref mD, .ref mA, .ref mB, .ref mG])), (mS, .inl (cI, 3, .inl zs)), (mC, .inl (cI, 3, .inl sc)), (mL, .inl (cI, 3, .inl li)), (mQ, .inl (cL, 243, .inr (.inl sq))), (mT, .inl (cL, 243, .inr (.inl so))), (mD, .inl (cL, 500, .inr (.inl ds))), (mA, .inl (cI, 500, .inl as)), (mB, .inl (cI, 500, .inl bs)), (mG, .inl (cI, 500, .inl cs))] sz)) 0 0 (va_A [(aM, .inr (3, [.int th0, .ref mS, .ref mC, .ref mL, .ref mK, .int kn, .ref mQ, .ref mT, .ref mD, .ref mA, .ref mB, .ref mG])), (mS, .inl (cI, 3, .inl zs)), (mC, .inl (cI, 3, .inl sc)), (mL, .inl (cI, 3, .inl li)), (mQ, .inl (cL, 243, .inr (.inl sq))), (mT, .inl (cL, 243, .inr (.inl so))), (mD, .inl (cL, 500, .inr (.inl ds))), (mA, .inl (cI, 500, .inl as)), (mB, .inl (cI, 500, .inl bs)), (mG, .inl (cI, 500, .inl cs))] sz) := by
  refine Met.ofW (cc := b_M_until) (maxL := 3) (ret := (some .int)) (by decide) rfl ?_
  intro p e s m args below meth c s₁ B hml hv
  obtain ⟨rfl, hsz, hP, hM, hD0⟩ := hv
  have hx := B.exec
  have hb := B.bytes
  have hr := B.returns
  have hts := atoms_spec (ws := w_M_until) B.pre
  have hown : s.vm.findClass "RoomEchoesModel" = some m.cls := findClass_of_methodNamed B.named
  have hlocks := B.notSynchronized
  have hK := hM.1
  subst hsz
  have hD := hD0.self (sz := s.heap.size)
  generalize hAe : va_A [(aM, .inr (3, [.int th0, .ref mS, .ref mC, .ref mL, .ref mK, .int kn, .ref mQ, .ref mT, .ref mD, .ref mA, .ref mB, .ref mG])), (mS, .inl (cI, 3, .inl zs)), (mC, .inl (cI, 3, .inl sc)), (mL, .inl (cI, 3, .inl li)), (mQ, .inl (cL, 243, .inr (.inl sq))), (mT, .inl (cL, 243, .inr (.inl so))), (mD, .inl (cL, 500, .inr (.inl ds))), (mA, .inl (cI, 500, .inl as)), (mB, .inl (cI, 500, .inl bs)), (mG, .inl (cI, 500, .inl cs))] s.heap.size = A at hD ⊢
  have hA : ∀ q : Nat, s.heap.size ≤ q → A q := fun q h => by rw [← hAe]; exact Or.inr h
  have hS : va_S A s.heap s.heap [] := va_S.rf
  have hP : va_P (dC, dI) vwCl [(aM, .inr (3, [.int th0, .ref mS, .ref mC, .ref mL, .ref mK, .int kn, .ref mQ, .ref mT, .ref mD, .ref mA, .ref mB, .ref mG])), (mS, .inl (cI, 3, .inl zs)), (mC, .inl (cI, 3, .inl sc)), (mL, .inl (cI, 3, .inl li)), (mQ, .inl (cL, 243, .inr (.inl sq))), (mT, .inl (cL, 243, .inr (.inl so))), (mD, .inl (cL, 500, .inr (.inl ds))), (mA, .inl (cI, 500, .inl as)), (mB, .inl (cI, 500, .inl bs)), (mG, .inl (cI, 500, .inl cs))] s.heap := hP
  have hl := lv_entry ([.ref aM, .long d]) (n := 3) (Nat.le_of_ble_eq_true rfl)
  rw [lg_entry_eq]
  generalize (lg_sl ([.ref aM, .long d]) ++ List.replicate (3 - (lg_sl ([.ref aM, .long d])).length) Slot.unset).toArray = ls at hl ⊢
  have hl : lv_has ls 3 [(0, .ref aM), (1, .long d)] := hl
  refine lv_aload_n hx hb d_M_until_0 rfl (lv_at hl 0 rfl) ?_
  refine lv_lload_n hx hb d_M_until_1 rfl (lv_at hl 1 rfl) ?_
  refine lv_lconst (v := 0) hx hb d_M_until_2 (by decide) ?_
  refine W.lcmp hx hb d_M_until_3 ?_
  refine lv_if_lt (tgt := 11) hx hb d_M_until_4 (by decide) (fun c_4 => ?_) (fun c_4 => ?_)
  · rw [lg_cmp_lt] at c_4
    exact absurd h (by rw [pu_lt] at c_4; rw [pu_le]; omega)
  · rw [lg_cmp_lt] at c_4
    refine lv_iconst (v := 0) hx hb d_M_until_7 (by decide) ?_
    refine lv_goto (tgt := 12) hx hb d_M_until_8 (by decide) ?_
    refine va_put (D := (dC, dI)) (ci := 3) (v := .int 0) (ty := .int) (C := "RoomEchoesModel") (T := FT_M) (N := 12) hx hb hts (hi_ in_M) ty_M tyo_M nm_M hown hK hP hD hS 0 rfl rfl 0 (by decide) (ht_ hts mw424) (fun _ h9 => h9) rfl (by decide +kernel) rfl rfl (Nat.le_of_ble_eq_true rfl) d_M_until_12 (fun H locs hP hD hS => ?_)
    have hP : va_P (dC, dI) vwCl [(aM, .inr (3, [.int 0, .ref mS, .ref mC, .ref mL, .ref mK, .int kn, .ref mQ, .ref mT, .ref mD, .ref mA, .ref mB, .ref mG])), (mS, .inl (cI, 3, .inl zs)), (mC, .inl (cI, 3, .inl sc)), (mL, .inl (cI, 3, .inl li)), (mQ, .inl (cL, 243, .inr (.inl sq))), (mT, .inl (cL, 243, .inr (.inl so))), (mD, .inl (cL, 500, .inr (.inl ds))), (mA, .inl (cI, 500, .inl as)), (mB, .inl (cI, 500, .inl bs)), (mG, .inl (cI, 500, .inl cs))] H := hP
    have hD : va_D A [(aM, .inr (3, [.int 0, .ref mS, .ref mC, .ref mL, .ref mK, .int kn, .ref mQ, .ref mT, .ref mD, .ref mA, .ref mB, .ref mG])), (mS, .inl (cI, 3, .inl zs)), (mC, .inl (cI, 3, .inl sc)), (mL, .inl (cI, 3, .inl li)), (mQ, .inl (cL, 243, .inr (.inl sq))), (mT, .inl (cL, 243, .inr (.inl so))), (mD, .inl (cL, 500, .inr (.inl ds))), (mA, .inl (cI, 500, .inl as)), (mB, .inl (cI, 500, .inl bs)), (mG, .inl (cI, 500, .inl cs))] := hD
    refine lv_aload_n hx hb d_M_until_15 rfl (lv_at hl 0 rfl) ?_
    refine va_get (D := (dC, dI)) (ci := 3) (v := .int 0) (C := "RoomEchoesModel") (T := FT_M) (N := 12) hx hb hts (hi_ in_M) hown hK hP 0 rfl rfl 0 (by decide) (ht_ hts mw424) (fun _ h9 => h9) rfl d_M_until_16 ?_
    refine lv_if_le (tgt := 26) hx hb d_M_until_19 (by decide) (fun c_19 => ?_) (fun c_19 => ?_)
    · skip
      refine lv_aload_n hx hb d_M_until_26 rfl (lv_at hl 0 rfl) ?_
      refine lv_lload_n hx hb d_M_until_27 rfl (lv_at hl 1 rfl) ?_
      have hPc := hP.sub (ws' := [(aM, .inr (3, [.int 0, .ref mS, .ref mC, .ref mL, .ref mK, .int kn, .ref mQ, .ref mT, .ref mD, .ref mA, .ref mB, .ref mG])), (mS, .inl (cI, 3, .inl zs)), (mC, .inl (cI, 3, .inl sc)), (mL, .inl (cI, 3, .inl li)), (mQ, .inl (cL, 243, .inr (.inl sq))), (mT, .inl (cL, 243, .inr (.inl so))), (mD, .inl (cL, 500, .inr (.inl ds))), (mA, .inl (cI, 500, .inl as)), (mB, .inl (cI, 500, .inl bs)), (mG, .inl (cI, 500, .inl cs))]) [0, 1, 2, 3, 4, 5, 6, 7, 8, 9] rfl
      have hDc := hD.sub (ws' := [(aM, .inr (3, [.int 0, .ref mS, .ref mC, .ref mL, .ref mK, .int kn, .ref mQ, .ref mT, .ref mD, .ref mA, .ref mB, .ref mG])), (mS, .inl (cI, 3, .inl zs)), (mC, .inl (cI, 3, .inl sc)), (mL, .inl (cI, 3, .inl li)), (mQ, .inl (cL, 243, .inr (.inl sq))), (mT, .inl (cL, 243, .inr (.inl so))), (mD, .inl (cL, 500, .inr (.inl ds))), (mA, .inl (cI, 500, .inl as)), (mB, .inl (cI, 500, .inl bs)), (mG, .inl (cI, 500, .inl cs))]) [0, 1, 2, 3, 4, 5, 6, 7, 8, 9] (by decide) rfl
      refine wx_ci (wr := []) (w1 := fun (u : (Nat → Int64) × (Nat → Int64) × (Nat → Int64) × (Nat → Int32) × (Nat → Int32) × (Nat → Int32)) => [(aM, .inr (3, [.int 0, .ref mS, .ref mC, .ref mL, .ref mK, .int 1, .ref mQ, .ref mT, .ref mD, .ref mA, .ref mB, .ref mG])), (mS, .inl (cI, 3, .inl zs)), (mC, .inl (cI, 3, .inl sc)), (mL, .inl (cI, 3, .inl li)), (mQ, .inl (cL, 243, .inr (.inl u.1))), (mT, .inl (cL, 243, .inr (.inl u.2.1))), (mD, .inl (cL, 500, .inr (.inl u.2.2.1))), (mA, .inl (cI, 500, .inl u.2.2.2.1)), (mB, .inl (cI, 500, .inl u.2.2.2.2.1)), (mG, .inl (cI, 500, .inl u.2.2.2.2.2))]) hP hD hS hA [0, 1, 2, 3, 4, 5, 6, 7, 8, 9] [] rfl rfl (by decide) (by decide) (va_runV (As := [.long d]) (rest := []) ⟨hx, hb, hml, hown, hts⟩ (c_M_countUntil l dC dI cI cL aM 0 kn mS mC mL mK mQ mT mD mA mB mG zs sc li sq so ds as bs cs d _ hax hR) (cwV 1 hts (gi_V mw565 mw562 mw564 mw25 mw33) rfl rfl rfl (by decide +kernel) ⟨Nat.le_of_ble_eq_true rfl, Nat.le_of_ble_eq_true rfl⟩) (wr_V hM hPc hDc rfl rfl rfl) rfl rfl hl.1 rfl (lv_room (Nat.le_of_ble_eq_true rfl)) d_M_until_28 ⟨Nat.le_of_ble_eq_true rfl, Nat.le_of_ble_eq_true rfl⟩) (fun r_7 u H locs hu_8 hP hD hS => ?_)
      obtain ⟨sq9_1, so9_2, ds9_3, as9_4, bs9_5, cs9_6⟩ := u
      have hu_8 : MRz zs sc li ds9_3 as9_4 bs9_5 cs9_6 ∧ r_7 = nI (j_cu ds9_3 d 500 0) := hu_8
      have hP := hP.sub (ws' := [(aM, .inr (3, [.int 0, .ref mS, .ref mC, .ref mL, .ref mK, .int 1, .ref mQ, .ref mT, .ref mD, .ref mA, .ref mB, .ref mG])), (mS, .inl (cI, 3, .inl zs)), (mC, .inl (cI, 3, .inl sc)), (mL, .inl (cI, 3, .inl li)), (mQ, .inl (cL, 243, .inr (.inl sq9_1))), (mT, .inl (cL, 243, .inr (.inl so9_2))), (mD, .inl (cL, 500, .inr (.inl ds9_3))), (mA, .inl (cI, 500, .inl as9_4)), (mB, .inl (cI, 500, .inl bs9_5)), (mG, .inl (cI, 500, .inl cs9_6))]) [0, 1, 2, 3, 4, 5, 6, 7, 8, 9] rfl
      have hD := hD.sub (ws' := [(aM, .inr (3, [.int 0, .ref mS, .ref mC, .ref mL, .ref mK, .int 1, .ref mQ, .ref mT, .ref mD, .ref mA, .ref mB, .ref mG])), (mS, .inl (cI, 3, .inl zs)), (mC, .inl (cI, 3, .inl sc)), (mL, .inl (cI, 3, .inl li)), (mQ, .inl (cL, 243, .inr (.inl sq9_1))), (mT, .inl (cL, 243, .inr (.inl so9_2))), (mD, .inl (cL, 500, .inr (.inl ds9_3))), (mA, .inl (cI, 500, .inl as9_4)), (mB, .inl (cI, 500, .inl bs9_5)), (mG, .inl (cI, 500, .inl cs9_6))]) [0, 1, 2, 3, 4, 5, 6, 7, 8, 9] (by decide) rfl
      have hP9 : va_P (dC, dI) vwCl [(aM, .inr (3, [.int 0, .ref mS, .ref mC, .ref mL, .ref mK, .int 1, .ref mQ, .ref mT, .ref mD, .ref mA, .ref mB, .ref mG])), (mS, .inl (cI, 3, .inl zs)), (mC, .inl (cI, 3, .inl sc)), (mL, .inl (cI, 3, .inl li)), (mQ, .inl (cL, 243, .inr (.inl sq9_1))), (mT, .inl (cL, 243, .inr (.inl so9_2))), (mD, .inl (cL, 500, .inr (.inl ds9_3))), (mA, .inl (cI, 500, .inl as9_4)), (mB, .inl (cI, 500, .inl bs9_5)), (mG, .inl (cI, 500, .inl cs9_6))] _ := hP
      have hD9 : va_D A [(aM, .inr (3, [.int 0, .ref mS, .ref mC, .ref mL, .ref mK, .int 1, .ref mQ, .ref mT, .ref mD, .ref mA, .ref mB, .ref mG])), (mS, .inl (cI, 3, .inl zs)), (mC, .inl (cI, 3, .inl sc)), (mL, .inl (cI, 3, .inl li)), (mQ, .inl (cL, 243, .inr (.inl sq9_1))), (mT, .inl (cL, 243, .inr (.inl so9_2))), (mD, .inl (cL, 500, .inr (.inl ds9_3))), (mA, .inl (cI, 500, .inl as9_4)), (mB, .inl (cI, 500, .inl bs9_5)), (mG, .inl (cI, 500, .inl cs9_6))] := hD
      exact W.iret (v := r_7) hx hb hr (fun t ht hW => ⟨⟨_, (sq9_1, so9_2, ds9_3, as9_4, bs9_5, cs9_6), rfl, hu_8, by rw [ht]; exact hP9, hD9⟩, hS.F ht⟩) hS.2.2 d_M_until_31
    · skip
      exact absurd (by decide) c_19

set_option maxHeartbeats 4000000 in
set_option maxRecDepth 100000 in
theorem n_M_until (l : Launch) (dC : Nat → ClassId) (dI : Nat → Nat → Nat) (cI cL : ClassId) (aM : Nat) (th0 : Int32) (kn : Int32) (mS : Nat) (mC : Nat) (mL : Nat) (mK : Nat) (mQ : Nat) (mT : Nat) (mD : Nat) (mA : Nat) (mB : Nat) (mG : Nat) (d : Int64) (sz : Nat) (h : ¬ (0 ≤ d)) : Met l y_M_until w_M_until ({ frames := 0, cells := 0, slots := 0, locals := 0 }) (wr_P (dC, dI) cI cL [(aM, .inr (3, [.int th0, .ref mS, .ref mC, .ref mL, .ref mK, .int kn, .ref mQ, .ref mT, .ref mD, .ref mA, .ref mB, .ref mG]))] sz [.ref aM, .long d]) (wr_i 0 (dC, dI) (va_A [(aM, .inr (3, [.int th0, .ref mS, .ref mC, .ref mL, .ref mK, .int kn, .ref mQ, .ref mT, .ref mD, .ref mA, .ref mB, .ref mG]))] sz) [(aM, .inr (3, [.int 1, .ref mS, .ref mC, .ref mL, .ref mK, .int kn, .ref mQ, .ref mT, .ref mD, .ref mA, .ref mB, .ref mG]))]) 0 0 (va_A [(aM, .inr (3, [.int th0, .ref mS, .ref mC, .ref mL, .ref mK, .int kn, .ref mQ, .ref mT, .ref mD, .ref mA, .ref mB, .ref mG]))] sz) := by
  refine Met.ofW (cc := b_M_until) (maxL := 3) (ret := (some .int)) (by decide) rfl ?_
  intro p e s m args below meth c s₁ B hml hv
  obtain ⟨rfl, hsz, hP, hM, hD0⟩ := hv
  have hx := B.exec
  have hb := B.bytes
  have hr := B.returns
  have hts := atoms_spec (ws := w_M_until) B.pre
  have hown : s.vm.findClass "RoomEchoesModel" = some m.cls := findClass_of_methodNamed B.named
  have hlocks := B.notSynchronized
  have hK := hM.1
  subst hsz
  have hD := hD0.self (sz := s.heap.size)
  generalize hAe : va_A [(aM, .inr (3, [.int th0, .ref mS, .ref mC, .ref mL, .ref mK, .int kn, .ref mQ, .ref mT, .ref mD, .ref mA, .ref mB, .ref mG]))] s.heap.size = A at hD ⊢
  have hA : ∀ q : Nat, s.heap.size ≤ q → A q := fun q h => by rw [← hAe]; exact Or.inr h
  have hS : va_S A s.heap s.heap [] := va_S.rf
  have hP : va_P (dC, dI) vwCl [(aM, .inr (3, [.int th0, .ref mS, .ref mC, .ref mL, .ref mK, .int kn, .ref mQ, .ref mT, .ref mD, .ref mA, .ref mB, .ref mG]))] s.heap := hP
  have hl := lv_entry ([.ref aM, .long d]) (n := 3) (Nat.le_of_ble_eq_true rfl)
  rw [lg_entry_eq]
  generalize (lg_sl ([.ref aM, .long d]) ++ List.replicate (3 - (lg_sl ([.ref aM, .long d])).length) Slot.unset).toArray = ls at hl ⊢
  have hl : lv_has ls 3 [(0, .ref aM), (1, .long d)] := hl
  refine lv_aload_n hx hb d_M_until_0 rfl (lv_at hl 0 rfl) ?_
  refine lv_lload_n hx hb d_M_until_1 rfl (lv_at hl 1 rfl) ?_
  refine lv_lconst (v := 0) hx hb d_M_until_2 (by decide) ?_
  refine W.lcmp hx hb d_M_until_3 ?_
  refine lv_if_lt (tgt := 11) hx hb d_M_until_4 (by decide) (fun c_4 => ?_) (fun c_4 => ?_)
  · rw [lg_cmp_lt] at c_4
    refine lv_iconst (v := 1) hx hb d_M_until_11 (by decide) ?_
    refine va_put (D := (dC, dI)) (ci := 3) (v := .int 1) (ty := .int) (C := "RoomEchoesModel") (T := FT_M) (N := 12) hx hb hts (hi_ in_M) ty_M tyo_M nm_M hown hK hP hD hS 0 rfl rfl 0 (by decide) (ht_ hts mw424) (fun _ h9 => h9) rfl (by decide +kernel) rfl rfl (Nat.le_of_ble_eq_true rfl) d_M_until_12 (fun H locs hP hD hS => ?_)
    have hP : va_P (dC, dI) vwCl [(aM, .inr (3, [.int 1, .ref mS, .ref mC, .ref mL, .ref mK, .int kn, .ref mQ, .ref mT, .ref mD, .ref mA, .ref mB, .ref mG]))] H := hP
    have hD : va_D A [(aM, .inr (3, [.int 1, .ref mS, .ref mC, .ref mL, .ref mK, .int kn, .ref mQ, .ref mT, .ref mD, .ref mA, .ref mB, .ref mG]))] := hD
    refine lv_aload_n hx hb d_M_until_15 rfl (lv_at hl 0 rfl) ?_
    refine va_get (D := (dC, dI)) (ci := 3) (v := .int 1) (C := "RoomEchoesModel") (T := FT_M) (N := 12) hx hb hts (hi_ in_M) hown hK hP 0 rfl rfl 0 (by decide) (ht_ hts mw424) (fun _ h9 => h9) rfl d_M_until_16 ?_
    refine lv_if_le (tgt := 26) hx hb d_M_until_19 (by decide) (fun c_19 => ?_) (fun c_19 => ?_)
    · skip
      exact absurd c_19 (by decide)
    · skip
      refine lv_iconst (v := 0) hx hb d_M_until_22 (by decide) ?_
      refine lv_goto (tgt := 31) hx hb d_M_until_23 (by decide) ?_
      have hP9 : va_P (dC, dI) vwCl [(aM, .inr (3, [.int 1, .ref mS, .ref mC, .ref mL, .ref mK, .int kn, .ref mQ, .ref mT, .ref mD, .ref mA, .ref mB, .ref mG]))] H := hP
      have hD9 : va_D A [(aM, .inr (3, [.int 1, .ref mS, .ref mC, .ref mL, .ref mK, .int kn, .ref mQ, .ref mT, .ref mD, .ref mA, .ref mB, .ref mG]))] := hD
      exact W.iret (v := 0) hx hb hr (fun t ht hW => ⟨⟨_, (), rfl, rfl, by rw [ht]; exact hP9, hD9⟩, hS.F ht⟩) hS.2.2 d_M_until_31
  · rw [lg_cmp_lt] at c_4
    exact absurd (by rw [pu_lt] at c_4; rw [pu_le]; omega) h

set_option maxHeartbeats 4000000 in
set_option maxRecDepth 100000 in
theorem c_M_loud (l : Launch) (dC : Nat → ClassId) (dI : Nat → Nat → Nat) (cI cL : ClassId) (aM : Nat) (th0 : Int32) (kn : Int32) (mS : Nat) (mC : Nat) (mL : Nat) (mK : Nat) (mQ : Nat) (mT : Nat) (mD : Nat) (mA : Nat) (mB : Nat) (mG : Nat) (zs : Nat → Int32) (sc : Nat → Int32) (li : Nat → Int32) (sq : Nat → Int64) (so : Nat → Int64) (ds : Nat → Int64) (as : Nat → Int32) (bs : Nat → Int32) (cs : Nat → Int32) (kp : Nat → Int32) (p0 : Int32) (p1 : Int32) (sz : Nat) (hax : ax3k zs sc li) (hR : kn = 0 ∨ (kn = 1 ∧ MRz zs sc li ds as bs cs)) (h : wi p0 0 499 ∧ wi p1 p0 499) : Met l y_M_loud w_M_loud ({ frames := 5, cells := 0, slots := 0, locals := 121 }) (wr_P (dC, dI) cI cL [(aM, .inr (3, [.int th0, .ref mS, .ref mC, .ref mL, .ref mK, .int kn, .ref mQ, .ref mT, .ref mD, .ref mA, .ref mB, .ref mG])), (mS, .inl (cI, 3, .inl zs)), (mC, .inl (cI, 3, .inl sc)), (mL, .inl (cI, 3, .inl li)), (mQ, .inl (cL, 243, .inr (.inl sq))), (mT, .inl (cL, 243, .inr (.inl so))), (mD, .inl (cL, 500, .inr (.inl ds))), (mA, .inl (cI, 500, .inl as)), (mB, .inl (cI, 500, .inl bs)), (mG, .inl (cI, 500, .inl cs)), (mK, .inl (cI, 6, .inl kp))] sz [.ref aM, .int p0, .int p1]) (va_Ql (fun (r9 : Int64) (u : (Nat → Int64) × (Nat → Int64) × (Nat → Int64) × (Nat → Int32) × (Nat → Int32) × (Nat → Int32)) => MRz zs sc li u.2.2.1 u.2.2.2.1 u.2.2.2.2.1 u.2.2.2.2.2 ∧ r9 = j_sum (mlo zs sc li kp u.2.2.2.1 u.2.2.2.2.1 u.2.2.2.2.2) 0 (p1.toNatClampNeg + 1) - j_sum (mlo zs sc li kp u.2.2.2.1 u.2.2.2.2.1 u.2.2.2.2.2) 0 p0.toNatClampNeg) (fun u t => va_P (dC, dI) vwCl [(aM, .inr (3, [.int 0, .ref mS, .ref mC, .ref mL, .ref mK, .int 1, .ref mQ, .ref mT, .ref mD, .ref mA, .ref mB, .ref mG])), (mS, .inl (cI, 3, .inl zs)), (mC, .inl (cI, 3, .inl sc)), (mL, .inl (cI, 3, .inl li)), (mQ, .inl (cL, 243, .inr (.inl u.1))), (mT, .inl (cL, 243, .inr (.inl u.2.1))), (mD, .inl (cL, 500, .inr (.inl u.2.2.1))), (mA, .inl (cI, 500, .inl u.2.2.2.1)), (mB, .inl (cI, 500, .inl u.2.2.2.2.1)), (mG, .inl (cI, 500, .inl u.2.2.2.2.2)), (mK, .inl (cI, 6, .inl kp))] t.heap ∧ va_D (va_A [(aM, .inr (3, [.int th0, .ref mS, .ref mC, .ref mL, .ref mK, .int kn, .ref mQ, .ref mT, .ref mD, .ref mA, .ref mB, .ref mG])), (mS, .inl (cI, 3, .inl zs)), (mC, .inl (cI, 3, .inl sc)), (mL, .inl (cI, 3, .inl li)), (mQ, .inl (cL, 243, .inr (.inl sq))), (mT, .inl (cL, 243, .inr (.inl so))), (mD, .inl (cL, 500, .inr (.inl ds))), (mA, .inl (cI, 500, .inl as)), (mB, .inl (cI, 500, .inl bs)), (mG, .inl (cI, 500, .inl cs)), (mK, .inl (cI, 6, .inl kp))] sz) [(aM, .inr (3, [.int 0, .ref mS, .ref mC, .ref mL, .ref mK, .int 1, .ref mQ, .ref mT, .ref mD, .ref mA, .ref mB, .ref mG])), (mS, .inl (cI, 3, .inl zs)), (mC, .inl (cI, 3, .inl sc)), (mL, .inl (cI, 3, .inl li)), (mQ, .inl (cL, 243, .inr (.inl u.1))), (mT, .inl (cL, 243, .inr (.inl u.2.1))), (mD, .inl (cL, 500, .inr (.inl u.2.2.1))), (mA, .inl (cI, 500, .inl u.2.2.2.1)), (mB, .inl (cI, 500, .inl u.2.2.2.2.1)), (mG, .inl (cI, 500, .inl u.2.2.2.2.2)), (mK, .inl (cI, 6, .inl kp))]) (va_A [(aM, .inr (3, [.int th0, .ref mS, .ref mC, .ref mL, .ref mK, .int kn, .ref mQ, .ref mT, .ref mD, .ref mA, .ref mB, .ref mG])), (mS, .inl (cI, 3, .inl zs)), (mC, .inl (cI, 3, .inl sc)), (mL, .inl (cI, 3, .inl li)), (mQ, .inl (cL, 243, .inr (.inl sq))), (mT, .inl (cL, 243, .inr (.inl so))), (mD, .inl (cL, 500, .inr (.inl ds))), (mA, .inl (cI, 500, .inl as)), (mB, .inl (cI, 500, .inl bs)), (mG, .inl (cI, 500, .inl cs)), (mK, .inl (cI, 6, .inl kp))] sz)) 0 0 (va_A [(aM, .inr (3, [.int th0, .ref mS, .ref mC, .ref mL, .ref mK, .int kn, .ref mQ, .ref mT, .ref mD, .ref mA, .ref mB, .ref mG])), (mS, .inl (cI, 3, .inl zs)), (mC, .inl (cI, 3, .inl sc)), (mL, .inl (cI, 3, .inl li)), (mQ, .inl (cL, 243, .inr (.inl sq))), (mT, .inl (cL, 243, .inr (.inl so))), (mD, .inl (cL, 500, .inr (.inl ds))), (mA, .inl (cI, 500, .inl as)), (mB, .inl (cI, 500, .inl bs)), (mG, .inl (cI, 500, .inl cs)), (mK, .inl (cI, 6, .inl kp))] sz) := by
  refine Met.ofW (cc := b_M_loud) (maxL := 3) (ret := (some .long)) (by decide) rfl ?_
  intro p e s m args below meth c s₁ B hml hv
  obtain ⟨rfl, hsz, hP, hM, hD0⟩ := hv
  have hx := B.exec
  have hb := B.bytes
  have hr := B.returns
  have hts := atoms_spec (ws := w_M_loud) B.pre
  have hown : s.vm.findClass "RoomEchoesModel" = some m.cls := findClass_of_methodNamed B.named
  have hlocks := B.notSynchronized
  have hK := hM.1
  subst hsz
  have hD := hD0.self (sz := s.heap.size)
  generalize hAe : va_A [(aM, .inr (3, [.int th0, .ref mS, .ref mC, .ref mL, .ref mK, .int kn, .ref mQ, .ref mT, .ref mD, .ref mA, .ref mB, .ref mG])), (mS, .inl (cI, 3, .inl zs)), (mC, .inl (cI, 3, .inl sc)), (mL, .inl (cI, 3, .inl li)), (mQ, .inl (cL, 243, .inr (.inl sq))), (mT, .inl (cL, 243, .inr (.inl so))), (mD, .inl (cL, 500, .inr (.inl ds))), (mA, .inl (cI, 500, .inl as)), (mB, .inl (cI, 500, .inl bs)), (mG, .inl (cI, 500, .inl cs)), (mK, .inl (cI, 6, .inl kp))] s.heap.size = A at hD ⊢
  have hA : ∀ q : Nat, s.heap.size ≤ q → A q := fun q h => by rw [← hAe]; exact Or.inr h
  have hS : va_S A s.heap s.heap [] := va_S.rf
  have hP : va_P (dC, dI) vwCl [(aM, .inr (3, [.int th0, .ref mS, .ref mC, .ref mL, .ref mK, .int kn, .ref mQ, .ref mT, .ref mD, .ref mA, .ref mB, .ref mG])), (mS, .inl (cI, 3, .inl zs)), (mC, .inl (cI, 3, .inl sc)), (mL, .inl (cI, 3, .inl li)), (mQ, .inl (cL, 243, .inr (.inl sq))), (mT, .inl (cL, 243, .inr (.inl so))), (mD, .inl (cL, 500, .inr (.inl ds))), (mA, .inl (cI, 500, .inl as)), (mB, .inl (cI, 500, .inl bs)), (mG, .inl (cI, 500, .inl cs)), (mK, .inl (cI, 6, .inl kp))] s.heap := hP
  have hl := lv_entry ([.ref aM, .int p0, .int p1]) (n := 3) (Nat.le_of_ble_eq_true rfl)
  rw [lg_entry_eq]
  generalize (lg_sl ([.ref aM, .int p0, .int p1]) ++ List.replicate (3 - (lg_sl ([.ref aM, .int p0, .int p1])).length) Slot.unset).toArray = ls at hl ⊢
  have hl : lv_has ls 3 [(0, .ref aM), (1, .int p0), (2, .int p1)] := hl
  refine lv_aload_n hx hb d_M_loud_0 rfl (lv_at hl 0 rfl) ?_
  refine lv_iload_n hx hb d_M_loud_1 rfl (lv_at hl 1 rfl) ?_
  refine lv_i2l hx hb d_M_loud_2 rfl ?_
  refine lv_lconst (v := 0) hx hb d_M_loud_3 (by decide) ?_
  refine lv_ldc2 (v := 499) hx hb hown (ht_ hts mw530) d_M_loud_4 ?_
  refine rd_c (va_runS (As := [.long p0.toInt64, .long 0, .long 499]) (rest := [.ref aM]) ⟨hx, hb, hml, hown, hts⟩ (c_M_in l p0.toInt64 0 499) (cwS 3 hts (gi_S mw475 mw473 mw474 mw33) rfl rfl rfl (by decide +kernel) ⟨Nat.le_of_ble_eq_true rfl, Nat.le_of_ble_eq_true rfl⟩) st_S rfl rfl hl.1 rfl (lv_room (Nat.le_of_ble_eq_true rfl)) d_M_loud_7 ⟨Nat.le_of_ble_eq_true rfl, Nat.le_of_ble_eq_true rfl⟩) ?_
  refine tp_i 1 (in_yes (lo := 0) (hi := 499) (by decide) (by decide) h.1) ?_
  refine lv_if_eq (tgt := 30) hx hb d_M_loud_10 (by decide) (fun c_10 => ?_) (fun c_10 => ?_)
  · skip
    exact absurd c_10 (by decide)
  · skip
    refine lv_iload_n hx hb d_M_loud_13 rfl (lv_at hl 2 rfl) ?_
    refine lv_i2l hx hb d_M_loud_14 rfl ?_
    refine lv_iload_n hx hb d_M_loud_15 rfl (lv_at hl 1 rfl) ?_
    refine lv_i2l hx hb d_M_loud_16 rfl ?_
    refine lv_ldc2 (v := 499) hx hb hown (ht_ hts mw530) d_M_loud_17 ?_
    refine rd_c (va_runS (As := [.long p1.toInt64, .long p0.toInt64, .long 499]) (rest := [.ref aM]) ⟨hx, hb, hml, hown, hts⟩ (c_M_in l p1.toInt64 p0.toInt64 499) (cwS 3 hts (gi_S mw475 mw473 mw474 mw33) rfl rfl rfl (by decide +kernel) ⟨Nat.le_of_ble_eq_true rfl, Nat.le_of_ble_eq_true rfl⟩) st_S rfl rfl hl.1 rfl (lv_room (Nat.le_of_ble_eq_true rfl)) d_M_loud_20 ⟨Nat.le_of_ble_eq_true rfl, Nat.le_of_ble_eq_true rfl⟩) ?_
    refine tp_i 1 (in_yes (lo := p0) (hi := 499) rfl (by decide) h.2) ?_
    refine lv_if_eq (tgt := 30) hx hb d_M_loud_23 (by decide) (fun c_23 => ?_) (fun c_23 => ?_)
    · skip
      exact absurd c_23 (by decide)
    · skip
      refine lv_iconst (v := 0) hx hb d_M_loud_26 (by decide) ?_
      refine lv_goto (tgt := 31) hx hb d_M_loud_27 (by decide) ?_
      refine va_put (D := (dC, dI)) (ci := 3) (v := .int 0) (ty := .int) (C := "RoomEchoesModel") (T := FT_M) (N := 12) hx hb hts (hi_ in_M) ty_M tyo_M nm_M hown hK hP hD hS 0 rfl rfl 0 (by decide) (ht_ hts mw424) (fun _ h9 => h9) rfl (by decide +kernel) rfl rfl (Nat.le_of_ble_eq_true rfl) d_M_loud_31 (fun H locs hP hD hS => ?_)
      have hP : va_P (dC, dI) vwCl [(aM, .inr (3, [.int 0, .ref mS, .ref mC, .ref mL, .ref mK, .int kn, .ref mQ, .ref mT, .ref mD, .ref mA, .ref mB, .ref mG])), (mS, .inl (cI, 3, .inl zs)), (mC, .inl (cI, 3, .inl sc)), (mL, .inl (cI, 3, .inl li)), (mQ, .inl (cL, 243, .inr (.inl sq))), (mT, .inl (cL, 243, .inr (.inl so))), (mD, .inl (cL, 500, .inr (.inl ds))), (mA, .inl (cI, 500, .inl as)), (mB, .inl (cI, 500, .inl bs)), (mG, .inl (cI, 500, .inl cs)), (mK, .inl (cI, 6, .inl kp))] H := hP
      have hD : va_D A [(aM, .inr (3, [.int 0, .ref mS, .ref mC, .ref mL, .ref mK, .int kn, .ref mQ, .ref mT, .ref mD, .ref mA, .ref mB, .ref mG])), (mS, .inl (cI, 3, .inl zs)), (mC, .inl (cI, 3, .inl sc)), (mL, .inl (cI, 3, .inl li)), (mQ, .inl (cL, 243, .inr (.inl sq))), (mT, .inl (cL, 243, .inr (.inl so))), (mD, .inl (cL, 500, .inr (.inl ds))), (mA, .inl (cI, 500, .inl as)), (mB, .inl (cI, 500, .inl bs)), (mG, .inl (cI, 500, .inl cs)), (mK, .inl (cI, 6, .inl kp))] := hD
      refine lv_aload_n hx hb d_M_loud_34 rfl (lv_at hl 0 rfl) ?_
      refine va_get (D := (dC, dI)) (ci := 3) (v := .int 0) (C := "RoomEchoesModel") (T := FT_M) (N := 12) hx hb hts (hi_ in_M) hown hK hP 0 rfl rfl 0 (by decide) (ht_ hts mw424) (fun _ h9 => h9) rfl d_M_loud_35 ?_
      refine lv_if_le (tgt := 45) hx hb d_M_loud_38 (by decide) (fun c_38 => ?_) (fun c_38 => ?_)
      · skip
        have l5 := wi_lo h.1 h.2
        refine lv_aload_n hx hb d_M_loud_45 rfl (lv_at hl 0 rfl) ?_
        refine lv_iload_n hx hb d_M_loud_46 rfl (lv_at hl 2 rfl) ?_
        refine tp_i (nI p1.toNatClampNeg) l5.1 ?_
        refine lv_iconst (v := 1) hx hb d_M_loud_47 (by decide) ?_
        refine lv_iadd hx hb d_M_loud_48 ?_
        refine tp_i (nI (p1.toNatClampNeg + 1)) (nI_1 _) ?_
        have hPc := hP.sub (ws' := [(aM, .inr (3, [.int 0, .ref mS, .ref mC, .ref mL, .ref mK, .int kn, .ref mQ, .ref mT, .ref mD, .ref mA, .ref mB, .ref mG])), (mS, .inl (cI, 3, .inl zs)), (mC, .inl (cI, 3, .inl sc)), (mL, .inl (cI, 3, .inl li)), (mQ, .inl (cL, 243, .inr (.inl sq))), (mT, .inl (cL, 243, .inr (.inl so))), (mD, .inl (cL, 500, .inr (.inl ds))), (mA, .inl (cI, 500, .inl as)), (mB, .inl (cI, 500, .inl bs)), (mG, .inl (cI, 500, .inl cs)), (mK, .inl (cI, 6, .inl kp))]) [0, 1, 2, 3, 4, 5, 6, 7, 8, 9, 10] rfl
        have hDc := hD.sub (ws' := [(aM, .inr (3, [.int 0, .ref mS, .ref mC, .ref mL, .ref mK, .int kn, .ref mQ, .ref mT, .ref mD, .ref mA, .ref mB, .ref mG])), (mS, .inl (cI, 3, .inl zs)), (mC, .inl (cI, 3, .inl sc)), (mL, .inl (cI, 3, .inl li)), (mQ, .inl (cL, 243, .inr (.inl sq))), (mT, .inl (cL, 243, .inr (.inl so))), (mD, .inl (cL, 500, .inr (.inl ds))), (mA, .inl (cI, 500, .inl as)), (mB, .inl (cI, 500, .inl bs)), (mG, .inl (cI, 500, .inl cs)), (mK, .inl (cI, 6, .inl kp))]) [0, 1, 2, 3, 4, 5, 6, 7, 8, 9, 10] (by decide) rfl
        refine wx_cl (wr := []) (w1 := fun (u : (Nat → Int64) × (Nat → Int64) × (Nat → Int64) × (Nat → Int32) × (Nat → Int32) × (Nat → Int32)) => [(aM, .inr (3, [.int 0, .ref mS, .ref mC, .ref mL, .ref mK, .int 1, .ref mQ, .ref mT, .ref mD, .ref mA, .ref mB, .ref mG])), (mS, .inl (cI, 3, .inl zs)), (mC, .inl (cI, 3, .inl sc)), (mL, .inl (cI, 3, .inl li)), (mQ, .inl (cL, 243, .inr (.inl u.1))), (mT, .inl (cL, 243, .inr (.inl u.2.1))), (mD, .inl (cL, 500, .inr (.inl u.2.2.1))), (mA, .inl (cI, 500, .inl u.2.2.2.1)), (mB, .inl (cI, 500, .inl u.2.2.2.2.1)), (mG, .inl (cI, 500, .inl u.2.2.2.2.2)), (mK, .inl (cI, 6, .inl kp))]) hP hD hS hA [0, 1, 2, 3, 4, 5, 6, 7, 8, 9, 10] [] rfl rfl (by decide) (by decide) (va_runV (As := [.int (nI (p1.toNatClampNeg + 1))]) (rest := []) ⟨hx, hb, hml, hown, hts⟩ (c_M_first l dC dI cI cL aM 0 kn mS mC mL mK mQ mT mD mA mB mG zs sc li sq so ds as bs cs kp (p1.toNatClampNeg + 1) _ hax hR (by omega)) (cwV 1 hts (gi_V mw573 mw570 mw572 mw26 mw33) rfl rfl rfl (by decide +kernel) ⟨Nat.le_of_ble_eq_true rfl, Nat.le_of_ble_eq_true rfl⟩) (wr_V hM hPc hDc rfl rfl rfl) rfl rfl hl.1 rfl (lv_room (Nat.le_of_ble_eq_true rfl)) d_M_loud_49 ⟨Nat.le_of_ble_eq_true rfl, Nat.le_of_ble_eq_true rfl⟩) (fun r_7 u H locs hu_8 hP hD hS => ?_)
        obtain ⟨sq9_1, so9_2, ds9_3, as9_4, bs9_5, cs9_6⟩ := u
        have hu_8 : MRz zs sc li ds9_3 as9_4 bs9_5 cs9_6 ∧ r_7 = j_sum (mlo zs sc li kp as9_4 bs9_5 cs9_6) 0 (p1.toNatClampNeg + 1) := hu_8
        have hP := hP.sub (ws' := [(aM, .inr (3, [.int 0, .ref mS, .ref mC, .ref mL, .ref mK, .int 1, .ref mQ, .ref mT, .ref mD, .ref mA, .ref mB, .ref mG])), (mS, .inl (cI, 3, .inl zs)), (mC, .inl (cI, 3, .inl sc)), (mL, .inl (cI, 3, .inl li)), (mQ, .inl (cL, 243, .inr (.inl sq9_1))), (mT, .inl (cL, 243, .inr (.inl so9_2))), (mD, .inl (cL, 500, .inr (.inl ds9_3))), (mA, .inl (cI, 500, .inl as9_4)), (mB, .inl (cI, 500, .inl bs9_5)), (mG, .inl (cI, 500, .inl cs9_6)), (mK, .inl (cI, 6, .inl kp))]) [0, 1, 2, 3, 4, 5, 6, 7, 8, 9, 10] rfl
        have hD := hD.sub (ws' := [(aM, .inr (3, [.int 0, .ref mS, .ref mC, .ref mL, .ref mK, .int 1, .ref mQ, .ref mT, .ref mD, .ref mA, .ref mB, .ref mG])), (mS, .inl (cI, 3, .inl zs)), (mC, .inl (cI, 3, .inl sc)), (mL, .inl (cI, 3, .inl li)), (mQ, .inl (cL, 243, .inr (.inl sq9_1))), (mT, .inl (cL, 243, .inr (.inl so9_2))), (mD, .inl (cL, 500, .inr (.inl ds9_3))), (mA, .inl (cI, 500, .inl as9_4)), (mB, .inl (cI, 500, .inl bs9_5)), (mG, .inl (cI, 500, .inl cs9_6)), (mK, .inl (cI, 6, .inl kp))]) [0, 1, 2, 3, 4, 5, 6, 7, 8, 9, 10] (by decide) rfl
        obtain ⟨hm1, er1⟩ := hu_8
        subst er1
        refine lv_aload_n hx hb d_M_loud_52 rfl (lv_at hl 0 rfl) ?_
        refine lv_iload_n hx hb d_M_loud_53 rfl (lv_at hl 1 rfl) ?_
        refine tp_i (nI p0.toNatClampNeg) (wi_nI (hi := 499) h.1 (by decide)).1 ?_
        have hPc := hP.sub (ws' := [(aM, .inr (3, [.int 0, .ref mS, .ref mC, .ref mL, .ref mK, .int 1, .ref mQ, .ref mT, .ref mD, .ref mA, .ref mB, .ref mG])), (mS, .inl (cI, 3, .inl zs)), (mC, .inl (cI, 3, .inl sc)), (mL, .inl (cI, 3, .inl li)), (mQ, .inl (cL, 243, .inr (.inl sq9_1))), (mT, .inl (cL, 243, .inr (.inl so9_2))), (mD, .inl (cL, 500, .inr (.inl ds9_3))), (mA, .inl (cI, 500, .inl as9_4)), (mB, .inl (cI, 500, .inl bs9_5)), (mG, .inl (cI, 500, .inl cs9_6)), (mK, .inl (cI, 6, .inl kp))]) [0, 1, 2, 3, 4, 5, 6, 7, 8, 9, 10] rfl
        refine rd_c (va_runV (As := [.int (nI p0.toNatClampNeg)]) (rest := [.long (j_sum (mlo zs sc li kp as9_4 bs9_5 cs9_6) 0 (p1.toNatClampNeg + 1))]) ⟨hx, hb, hml, hown, hts⟩ (c_M_first1 l dC dI cI cL aM 0 mS mC mL mK mQ mT mD mA mB mG zs sc li sq9_1 so9_2 ds9_3 as9_4 bs9_5 cs9_6 kp p0.toNatClampNeg hax hm1 (by omega)) (cwV 1 hts (gi_V mw573 mw570 mw572 mw26 mw33) rfl rfl rfl (by decide +kernel) ⟨Nat.le_of_ble_eq_true rfl, Nat.le_of_ble_eq_true rfl⟩) (rd_V hM hPc rfl rfl rfl) rfl rfl hl.1 rfl (lv_room (Nat.le_of_ble_eq_true rfl)) d_M_loud_54 ⟨Nat.le_of_ble_eq_true rfl, Nat.le_of_ble_eq_true rfl⟩) ?_
        refine lv_lsub hx hb d_M_loud_57 ?_
        have hP9 : va_P (dC, dI) vwCl [(aM, .inr (3, [.int 0, .ref mS, .ref mC, .ref mL, .ref mK, .int 1, .ref mQ, .ref mT, .ref mD, .ref mA, .ref mB, .ref mG])), (mS, .inl (cI, 3, .inl zs)), (mC, .inl (cI, 3, .inl sc)), (mL, .inl (cI, 3, .inl li)), (mQ, .inl (cL, 243, .inr (.inl sq9_1))), (mT, .inl (cL, 243, .inr (.inl so9_2))), (mD, .inl (cL, 500, .inr (.inl ds9_3))), (mA, .inl (cI, 500, .inl as9_4)), (mB, .inl (cI, 500, .inl bs9_5)), (mG, .inl (cI, 500, .inl cs9_6)), (mK, .inl (cI, 6, .inl kp))] _ := hP
        have hD9 : va_D A [(aM, .inr (3, [.int 0, .ref mS, .ref mC, .ref mL, .ref mK, .int 1, .ref mQ, .ref mT, .ref mD, .ref mA, .ref mB, .ref mG])), (mS, .inl (cI, 3, .inl zs)), (mC, .inl (cI, 3, .inl sc)), (mL, .inl (cI, 3, .inl li)), (mQ, .inl (cL, 243, .inr (.inl sq9_1))), (mT, .inl (cL, 243, .inr (.inl so9_2))), (mD, .inl (cL, 500, .inr (.inl ds9_3))), (mA, .inl (cI, 500, .inl as9_4)), (mB, .inl (cI, 500, .inl bs9_5)), (mG, .inl (cI, 500, .inl cs9_6)), (mK, .inl (cI, 6, .inl kp))] := hD
        exact W.lret (v := (j_sum (mlo zs sc li kp as9_4 bs9_5 cs9_6) 0 (p1.toNatClampNeg + 1)) - (j_sum (mlo zs sc li kp as9_4 bs9_5 cs9_6) 0 p0.toNatClampNeg)) hx hb hr (fun t ht hW => ⟨⟨_, (sq9_1, so9_2, ds9_3, as9_4, bs9_5, cs9_6), rfl, ⟨hm1, rfl⟩, by rw [ht]; exact hP9, hD9⟩, hS.F ht⟩) hS.2.2 d_M_loud_58
      · skip
        exact absurd (by decide) c_38

set_option maxHeartbeats 4000000 in
set_option maxRecDepth 100000 in
theorem n_M_loud (l : Launch) (dC : Nat → ClassId) (dI : Nat → Nat → Nat) (cI cL : ClassId) (aM : Nat) (th0 : Int32) (kn : Int32) (mS : Nat) (mC : Nat) (mL : Nat) (mK : Nat) (mQ : Nat) (mT : Nat) (mD : Nat) (mA : Nat) (mB : Nat) (mG : Nat) (p0 : Int32) (p1 : Int32) (sz : Nat) (h : ¬ (wi p0 0 499 ∧ wi p1 p0 499)) : Met l y_M_loud w_M_loud ({ frames := 1, cells := 0, slots := 0, locals := 25 }) (wr_P (dC, dI) cI cL [(aM, .inr (3, [.int th0, .ref mS, .ref mC, .ref mL, .ref mK, .int kn, .ref mQ, .ref mT, .ref mD, .ref mA, .ref mB, .ref mG]))] sz [.ref aM, .int p0, .int p1]) (wr_l 0 (dC, dI) (va_A [(aM, .inr (3, [.int th0, .ref mS, .ref mC, .ref mL, .ref mK, .int kn, .ref mQ, .ref mT, .ref mD, .ref mA, .ref mB, .ref mG]))] sz) [(aM, .inr (3, [.int 1, .ref mS, .ref mC, .ref mL, .ref mK, .int kn, .ref mQ, .ref mT, .ref mD, .ref mA, .ref mB, .ref mG]))]) 0 0 (va_A [(aM, .inr (3, [.int th0, .ref mS, .ref mC, .ref mL, .ref mK, .int kn, .ref mQ, .ref mT, .ref mD, .ref mA, .ref mB, .ref mG]))] sz) := by
  refine Met.ofW (cc := b_M_loud) (maxL := 3) (ret := (some .long)) (by decide) rfl ?_
  intro p e s m args below meth c s₁ B hml hv
  obtain ⟨rfl, hsz, hP, hM, hD0⟩ := hv
  have hx := B.exec
  have hb := B.bytes
  have hr := B.returns
  have hts := atoms_spec (ws := w_M_loud) B.pre
  have hown : s.vm.findClass "RoomEchoesModel" = some m.cls := findClass_of_methodNamed B.named
  have hlocks := B.notSynchronized
  have hK := hM.1
  subst hsz
  have hD := hD0.self (sz := s.heap.size)
  generalize hAe : va_A [(aM, .inr (3, [.int th0, .ref mS, .ref mC, .ref mL, .ref mK, .int kn, .ref mQ, .ref mT, .ref mD, .ref mA, .ref mB, .ref mG]))] s.heap.size = A at hD ⊢
  have hA : ∀ q : Nat, s.heap.size ≤ q → A q := fun q h => by rw [← hAe]; exact Or.inr h
  have hS : va_S A s.heap s.heap [] := va_S.rf
  have hP : va_P (dC, dI) vwCl [(aM, .inr (3, [.int th0, .ref mS, .ref mC, .ref mL, .ref mK, .int kn, .ref mQ, .ref mT, .ref mD, .ref mA, .ref mB, .ref mG]))] s.heap := hP
  have hl := lv_entry ([.ref aM, .int p0, .int p1]) (n := 3) (Nat.le_of_ble_eq_true rfl)
  rw [lg_entry_eq]
  generalize (lg_sl ([.ref aM, .int p0, .int p1]) ++ List.replicate (3 - (lg_sl ([.ref aM, .int p0, .int p1])).length) Slot.unset).toArray = ls at hl ⊢
  have hl : lv_has ls 3 [(0, .ref aM), (1, .int p0), (2, .int p1)] := hl
  refine lv_aload_n hx hb d_M_loud_0 rfl (lv_at hl 0 rfl) ?_
  refine lv_iload_n hx hb d_M_loud_1 rfl (lv_at hl 1 rfl) ?_
  refine lv_i2l hx hb d_M_loud_2 rfl ?_
  refine lv_lconst (v := 0) hx hb d_M_loud_3 (by decide) ?_
  refine lv_ldc2 (v := 499) hx hb hown (ht_ hts mw530) d_M_loud_4 ?_
  refine rd_c (va_runS (As := [.long p0.toInt64, .long 0, .long 499]) (rest := [.ref aM]) ⟨hx, hb, hml, hown, hts⟩ (c_M_in l p0.toInt64 0 499) (cwS 3 hts (gi_S mw475 mw473 mw474 mw33) rfl rfl rfl (by decide +kernel) ⟨Nat.le_of_ble_eq_true rfl, Nat.le_of_ble_eq_true rfl⟩) st_S rfl rfl hl.1 rfl (lv_room (Nat.le_of_ble_eq_true rfl)) d_M_loud_7 ⟨Nat.le_of_ble_eq_true rfl, Nat.le_of_ble_eq_true rfl⟩) ?_
  refine lv_if_eq (tgt := 30) hx hb d_M_loud_10 (by decide) (fun c_10 => ?_) (fun c_10 => ?_)
  · skip
    refine lv_iconst (v := 1) hx hb d_M_loud_30 (by decide) ?_
    refine va_put (D := (dC, dI)) (ci := 3) (v := .int 1) (ty := .int) (C := "RoomEchoesModel") (T := FT_M) (N := 12) hx hb hts (hi_ in_M) ty_M tyo_M nm_M hown hK hP hD hS 0 rfl rfl 0 (by decide) (ht_ hts mw424) (fun _ h9 => h9) rfl (by decide +kernel) rfl rfl (Nat.le_of_ble_eq_true rfl) d_M_loud_31 (fun H locs hP hD hS => ?_)
    have hP : va_P (dC, dI) vwCl [(aM, .inr (3, [.int 1, .ref mS, .ref mC, .ref mL, .ref mK, .int kn, .ref mQ, .ref mT, .ref mD, .ref mA, .ref mB, .ref mG]))] H := hP
    have hD : va_D A [(aM, .inr (3, [.int 1, .ref mS, .ref mC, .ref mL, .ref mK, .int kn, .ref mQ, .ref mT, .ref mD, .ref mA, .ref mB, .ref mG]))] := hD
    refine lv_aload_n hx hb d_M_loud_34 rfl (lv_at hl 0 rfl) ?_
    refine va_get (D := (dC, dI)) (ci := 3) (v := .int 1) (C := "RoomEchoesModel") (T := FT_M) (N := 12) hx hb hts (hi_ in_M) hown hK hP 0 rfl rfl 0 (by decide) (ht_ hts mw424) (fun _ h9 => h9) rfl d_M_loud_35 ?_
    refine lv_if_le (tgt := 45) hx hb d_M_loud_38 (by decide) (fun c_38 => ?_) (fun c_38 => ?_)
    · skip
      exact absurd c_38 (by decide)
    · skip
      refine lv_lconst (v := 0) hx hb d_M_loud_41 (by decide) ?_
      refine lv_goto (tgt := 58) hx hb d_M_loud_42 (by decide) ?_
      have hP9 : va_P (dC, dI) vwCl [(aM, .inr (3, [.int 1, .ref mS, .ref mC, .ref mL, .ref mK, .int kn, .ref mQ, .ref mT, .ref mD, .ref mA, .ref mB, .ref mG]))] H := hP
      have hD9 : va_D A [(aM, .inr (3, [.int 1, .ref mS, .ref mC, .ref mL, .ref mK, .int kn, .ref mQ, .ref mT, .ref mD, .ref mA, .ref mB, .ref mG]))] := hD
      exact W.lret (v := 0) hx hb hr (fun t ht hW => ⟨⟨_, (), rfl, rfl, by rw [ht]; exact hP9, hD9⟩, hS.F ht⟩) hS.2.2 d_M_loud_58
  · skip
    refine lv_iload_n hx hb d_M_loud_13 rfl (lv_at hl 2 rfl) ?_
    refine lv_i2l hx hb d_M_loud_14 rfl ?_
    refine lv_iload_n hx hb d_M_loud_15 rfl (lv_at hl 1 rfl) ?_
    refine lv_i2l hx hb d_M_loud_16 rfl ?_
    refine lv_ldc2 (v := 499) hx hb hown (ht_ hts mw530) d_M_loud_17 ?_
    refine rd_c (va_runS (As := [.long p1.toInt64, .long p0.toInt64, .long 499]) (rest := [.ref aM]) ⟨hx, hb, hml, hown, hts⟩ (c_M_in l p1.toInt64 p0.toInt64 499) (cwS 3 hts (gi_S mw475 mw473 mw474 mw33) rfl rfl rfl (by decide +kernel) ⟨Nat.le_of_ble_eq_true rfl, Nat.le_of_ble_eq_true rfl⟩) st_S rfl rfl hl.1 rfl (lv_room (Nat.le_of_ble_eq_true rfl)) d_M_loud_20 ⟨Nat.le_of_ble_eq_true rfl, Nat.le_of_ble_eq_true rfl⟩) ?_
    refine lv_if_eq (tgt := 30) hx hb d_M_loud_23 (by decide) (fun c_23 => ?_) (fun c_23 => ?_)
    · skip
      refine lv_iconst (v := 1) hx hb d_M_loud_30 (by decide) ?_
      refine va_put (D := (dC, dI)) (ci := 3) (v := .int 1) (ty := .int) (C := "RoomEchoesModel") (T := FT_M) (N := 12) hx hb hts (hi_ in_M) ty_M tyo_M nm_M hown hK hP hD hS 0 rfl rfl 0 (by decide) (ht_ hts mw424) (fun _ h9 => h9) rfl (by decide +kernel) rfl rfl (Nat.le_of_ble_eq_true rfl) d_M_loud_31 (fun H locs hP hD hS => ?_)
      have hP : va_P (dC, dI) vwCl [(aM, .inr (3, [.int 1, .ref mS, .ref mC, .ref mL, .ref mK, .int kn, .ref mQ, .ref mT, .ref mD, .ref mA, .ref mB, .ref mG]))] H := hP
      have hD : va_D A [(aM, .inr (3, [.int 1, .ref mS, .ref mC, .ref mL, .ref mK, .int kn, .ref mQ, .ref mT, .ref mD, .ref mA, .ref mB, .ref mG]))] := hD
      refine lv_aload_n hx hb d_M_loud_34 rfl (lv_at hl 0 rfl) ?_
      refine va_get (D := (dC, dI)) (ci := 3) (v := .int 1) (C := "RoomEchoesModel") (T := FT_M) (N := 12) hx hb hts (hi_ in_M) hown hK hP 0 rfl rfl 0 (by decide) (ht_ hts mw424) (fun _ h9 => h9) rfl d_M_loud_35 ?_
      refine lv_if_le (tgt := 45) hx hb d_M_loud_38 (by decide) (fun c_38 => ?_) (fun c_38 => ?_)
      · skip
        exact absurd c_38 (by decide)
      · skip
        refine lv_lconst (v := 0) hx hb d_M_loud_41 (by decide) ?_
        refine lv_goto (tgt := 58) hx hb d_M_loud_42 (by decide) ?_
        have hP9 : va_P (dC, dI) vwCl [(aM, .inr (3, [.int 1, .ref mS, .ref mC, .ref mL, .ref mK, .int kn, .ref mQ, .ref mT, .ref mD, .ref mA, .ref mB, .ref mG]))] H := hP
        have hD9 : va_D A [(aM, .inr (3, [.int 1, .ref mS, .ref mC, .ref mL, .ref mK, .int kn, .ref mQ, .ref mT, .ref mD, .ref mA, .ref mB, .ref mG]))] := hD
        exact W.lret (v := 0) hx hb hr (fun t ht hW => ⟨⟨_, (), rfl, rfl, by rw [ht]; exact hP9, hD9⟩, hS.F ht⟩) hS.2.2 d_M_loud_58
    · skip
      exact absurd ⟨in_n (lo := 0) (hi := 499) (by decide) (by decide) c_10, in_n (lo := p0) (hi := 499) rfl (by decide) c_23⟩ h

set_option maxHeartbeats 4000000 in
set_option maxRecDepth 100000 in
theorem c_M_early (l : Launch) (dC : Nat → ClassId) (dI : Nat → Nat → Nat) (cI cL : ClassId) (aM : Nat) (th0 : Int32) (kn : Int32) (mS : Nat) (mC : Nat) (mL : Nat) (mK : Nat) (mQ : Nat) (mT : Nat) (mD : Nat) (mA : Nat) (mB : Nat) (mG : Nat) (zs : Nat → Int32) (sc : Nat → Int32) (li : Nat → Int32) (sq : Nat → Int64) (so : Nat → Int64) (ds : Nat → Int64) (as : Nat → Int32) (bs : Nat → Int32) (cs : Nat → Int32) (kp : Nat → Int32) (d : Int64) (pt : Int32) (sz : Nat) (hax : ax3k zs sc li) (hR : kn = 0 ∨ (kn = 1 ∧ MRz zs sc li ds as bs cs)) (hk : kpok kp) (h : 0 ≤ d ∧ wi pt 0 1) : Met l y_M_early w_M_early ({ frames := 5, cells := 0, slots := 0, locals := 121 }) (wr_P (dC, dI) cI cL [(aM, .inr (3, [.int th0, .ref mS, .ref mC, .ref mL, .ref mK, .int kn, .ref mQ, .ref mT, .ref mD, .ref mA, .ref mB, .ref mG])), (mS, .inl (cI, 3, .inl zs)), (mC, .inl (cI, 3, .inl sc)), (mL, .inl (cI, 3, .inl li)), (mQ, .inl (cL, 243, .inr (.inl sq))), (mT, .inl (cL, 243, .inr (.inl so))), (mD, .inl (cL, 500, .inr (.inl ds))), (mA, .inl (cI, 500, .inl as)), (mB, .inl (cI, 500, .inl bs)), (mG, .inl (cI, 500, .inl cs)), (mK, .inl (cI, 6, .inl kp))] sz [.ref aM, .long d, .int pt]) (va_Ql (fun (r9 : Int64) (u : (Nat → Int64) × (Nat → Int64) × (Nat → Int64) × (Nat → Int32) × (Nat → Int32) × (Nat → Int32)) => MRz zs sc li u.2.2.1 u.2.2.2.1 u.2.2.2.2.1 u.2.2.2.2.2 ∧ r9 = m_early (mlo zs sc li kp u.2.2.2.1 u.2.2.2.2.1 u.2.2.2.2.2) u.2.2.1 d pt) (fun u t => va_P (dC, dI) vwCl [(aM, .inr (3, [.int 0, .ref mS, .ref mC, .ref mL, .ref mK, .int 1, .ref mQ, .ref mT, .ref mD, .ref mA, .ref mB, .ref mG])), (mS, .inl (cI, 3, .inl zs)), (mC, .inl (cI, 3, .inl sc)), (mL, .inl (cI, 3, .inl li)), (mQ, .inl (cL, 243, .inr (.inl u.1))), (mT, .inl (cL, 243, .inr (.inl u.2.1))), (mD, .inl (cL, 500, .inr (.inl u.2.2.1))), (mA, .inl (cI, 500, .inl u.2.2.2.1)), (mB, .inl (cI, 500, .inl u.2.2.2.2.1)), (mG, .inl (cI, 500, .inl u.2.2.2.2.2)), (mK, .inl (cI, 6, .inl kp))] t.heap ∧ va_D (va_A [(aM, .inr (3, [.int th0, .ref mS, .ref mC, .ref mL, .ref mK, .int kn, .ref mQ, .ref mT, .ref mD, .ref mA, .ref mB, .ref mG])), (mS, .inl (cI, 3, .inl zs)), (mC, .inl (cI, 3, .inl sc)), (mL, .inl (cI, 3, .inl li)), (mQ, .inl (cL, 243, .inr (.inl sq))), (mT, .inl (cL, 243, .inr (.inl so))), (mD, .inl (cL, 500, .inr (.inl ds))), (mA, .inl (cI, 500, .inl as)), (mB, .inl (cI, 500, .inl bs)), (mG, .inl (cI, 500, .inl cs)), (mK, .inl (cI, 6, .inl kp))] sz) [(aM, .inr (3, [.int 0, .ref mS, .ref mC, .ref mL, .ref mK, .int 1, .ref mQ, .ref mT, .ref mD, .ref mA, .ref mB, .ref mG])), (mS, .inl (cI, 3, .inl zs)), (mC, .inl (cI, 3, .inl sc)), (mL, .inl (cI, 3, .inl li)), (mQ, .inl (cL, 243, .inr (.inl u.1))), (mT, .inl (cL, 243, .inr (.inl u.2.1))), (mD, .inl (cL, 500, .inr (.inl u.2.2.1))), (mA, .inl (cI, 500, .inl u.2.2.2.1)), (mB, .inl (cI, 500, .inl u.2.2.2.2.1)), (mG, .inl (cI, 500, .inl u.2.2.2.2.2)), (mK, .inl (cI, 6, .inl kp))]) (va_A [(aM, .inr (3, [.int th0, .ref mS, .ref mC, .ref mL, .ref mK, .int kn, .ref mQ, .ref mT, .ref mD, .ref mA, .ref mB, .ref mG])), (mS, .inl (cI, 3, .inl zs)), (mC, .inl (cI, 3, .inl sc)), (mL, .inl (cI, 3, .inl li)), (mQ, .inl (cL, 243, .inr (.inl sq))), (mT, .inl (cL, 243, .inr (.inl so))), (mD, .inl (cL, 500, .inr (.inl ds))), (mA, .inl (cI, 500, .inl as)), (mB, .inl (cI, 500, .inl bs)), (mG, .inl (cI, 500, .inl cs)), (mK, .inl (cI, 6, .inl kp))] sz)) 0 0 (va_A [(aM, .inr (3, [.int th0, .ref mS, .ref mC, .ref mL, .ref mK, .int kn, .ref mQ, .ref mT, .ref mD, .ref mA, .ref mB, .ref mG])), (mS, .inl (cI, 3, .inl zs)), (mC, .inl (cI, 3, .inl sc)), (mL, .inl (cI, 3, .inl li)), (mQ, .inl (cL, 243, .inr (.inl sq))), (mT, .inl (cL, 243, .inr (.inl so))), (mD, .inl (cL, 500, .inr (.inl ds))), (mA, .inl (cI, 500, .inl as)), (mB, .inl (cI, 500, .inl bs)), (mG, .inl (cI, 500, .inl cs)), (mK, .inl (cI, 6, .inl kp))] sz) := by
  refine Met.ofW (cc := b_M_early) (maxL := 10) (ret := (some .long)) (by decide) rfl ?_
  intro p e s m args below meth c s₁ B hml hv
  obtain ⟨rfl, hsz, hP, hM, hD0⟩ := hv
  have hx := B.exec
  have hb := B.bytes
  have hr := B.returns
  have hts := atoms_spec (ws := w_M_early) B.pre
  have hown : s.vm.findClass "RoomEchoesModel" = some m.cls := findClass_of_methodNamed B.named
  have hlocks := B.notSynchronized
  have hK := hM.1
  subst hsz
  have hD := hD0.self (sz := s.heap.size)
  generalize hAe : va_A [(aM, .inr (3, [.int th0, .ref mS, .ref mC, .ref mL, .ref mK, .int kn, .ref mQ, .ref mT, .ref mD, .ref mA, .ref mB, .ref mG])), (mS, .inl (cI, 3, .inl zs)), (mC, .inl (cI, 3, .inl sc)), (mL, .inl (cI, 3, .inl li)), (mQ, .inl (cL, 243, .inr (.inl sq))), (mT, .inl (cL, 243, .inr (.inl so))), (mD, .inl (cL, 500, .inr (.inl ds))), (mA, .inl (cI, 500, .inl as)), (mB, .inl (cI, 500, .inl bs)), (mG, .inl (cI, 500, .inl cs)), (mK, .inl (cI, 6, .inl kp))] s.heap.size = A at hD ⊢
  have hA : ∀ q : Nat, s.heap.size ≤ q → A q := fun q h => by rw [← hAe]; exact Or.inr h
  have hS : va_S A s.heap s.heap [] := va_S.rf
  have hP : va_P (dC, dI) vwCl [(aM, .inr (3, [.int th0, .ref mS, .ref mC, .ref mL, .ref mK, .int kn, .ref mQ, .ref mT, .ref mD, .ref mA, .ref mB, .ref mG])), (mS, .inl (cI, 3, .inl zs)), (mC, .inl (cI, 3, .inl sc)), (mL, .inl (cI, 3, .inl li)), (mQ, .inl (cL, 243, .inr (.inl sq))), (mT, .inl (cL, 243, .inr (.inl so))), (mD, .inl (cL, 500, .inr (.inl ds))), (mA, .inl (cI, 500, .inl as)), (mB, .inl (cI, 500, .inl bs)), (mG, .inl (cI, 500, .inl cs)), (mK, .inl (cI, 6, .inl kp))] s.heap := hP
  have hl := lv_entry ([.ref aM, .long d, .int pt]) (n := 10) (Nat.le_of_ble_eq_true rfl)
  rw [lg_entry_eq]
  generalize (lg_sl ([.ref aM, .long d, .int pt]) ++ List.replicate (10 - (lg_sl ([.ref aM, .long d, .int pt])).length) Slot.unset).toArray = ls at hl ⊢
  have hl : lv_has ls 10 [(0, .ref aM), (1, .long d), (3, .int pt)] := hl
  refine lv_aload_n hx hb d_M_early_0 rfl (lv_at hl 0 rfl) ?_
  refine lv_lload_n hx hb d_M_early_1 rfl (lv_at hl 1 rfl) ?_
  refine lv_lconst (v := 0) hx hb d_M_early_2 (by decide) ?_
  refine W.lcmp hx hb d_M_early_3 ?_
  refine lv_if_lt (tgt := 21) hx hb d_M_early_4 (by decide) (fun c_4 => ?_) (fun c_4 => ?_)
  · rw [lg_cmp_lt] at c_4
    exact absurd h.1 (by rw [pu_lt] at c_4; rw [pu_le]; omega)
  · rw [lg_cmp_lt] at c_4
    refine lv_iload_n hx hb d_M_early_7 rfl (lv_at hl 2 rfl) ?_
    refine lv_i2l hx hb d_M_early_8 rfl ?_
    refine lv_lconst (v := 0) hx hb d_M_early_9 (by decide) ?_
    refine lv_lconst (v := 1) hx hb d_M_early_10 (by decide) ?_
    refine rd_c (va_runS (As := [.long pt.toInt64, .long 0, .long 1]) (rest := [.ref aM]) ⟨hx, hb, hml, hown, hts⟩ (c_M_in l pt.toInt64 0 1) (cwS 3 hts (gi_S mw475 mw473 mw474 mw33) rfl rfl rfl (by decide +kernel) ⟨Nat.le_of_ble_eq_true rfl, Nat.le_of_ble_eq_true rfl⟩) st_S rfl rfl hl.1 rfl (lv_room (Nat.le_of_ble_eq_true rfl)) d_M_early_11 ⟨Nat.le_of_ble_eq_true rfl, Nat.le_of_ble_eq_true rfl⟩) ?_
    refine tp_i 1 (in_yes (lo := 0) (hi := 1) (by decide) (by decide) h.2) ?_
    refine lv_if_eq (tgt := 21) hx hb d_M_early_14 (by decide) (fun c_14 => ?_) (fun c_14 => ?_)
    · skip
      exact absurd c_14 (by decide)
    · skip
      refine lv_iconst (v := 0) hx hb d_M_early_17 (by decide) ?_
      refine lv_goto (tgt := 22) hx hb d_M_early_18 (by decide) ?_
      refine va_put (D := (dC, dI)) (ci := 3) (v := .int 0) (ty := .int) (C := "RoomEchoesModel") (T := FT_M) (N := 12) hx hb hts (hi_ in_M) ty_M tyo_M nm_M hown hK hP hD hS 0 rfl rfl 0 (by decide) (ht_ hts mw424) (fun _ h9 => h9) rfl (by decide +kernel) rfl rfl (Nat.le_of_ble_eq_true rfl) d_M_early_22 (fun H locs hP hD hS => ?_)
      have hP : va_P (dC, dI) vwCl [(aM, .inr (3, [.int 0, .ref mS, .ref mC, .ref mL, .ref mK, .int kn, .ref mQ, .ref mT, .ref mD, .ref mA, .ref mB, .ref mG])), (mS, .inl (cI, 3, .inl zs)), (mC, .inl (cI, 3, .inl sc)), (mL, .inl (cI, 3, .inl li)), (mQ, .inl (cL, 243, .inr (.inl sq))), (mT, .inl (cL, 243, .inr (.inl so))), (mD, .inl (cL, 500, .inr (.inl ds))), (mA, .inl (cI, 500, .inl as)), (mB, .inl (cI, 500, .inl bs)), (mG, .inl (cI, 500, .inl cs)), (mK, .inl (cI, 6, .inl kp))] H := hP
      have hD : va_D A [(aM, .inr (3, [.int 0, .ref mS, .ref mC, .ref mL, .ref mK, .int kn, .ref mQ, .ref mT, .ref mD, .ref mA, .ref mB, .ref mG])), (mS, .inl (cI, 3, .inl zs)), (mC, .inl (cI, 3, .inl sc)), (mL, .inl (cI, 3, .inl li)), (mQ, .inl (cL, 243, .inr (.inl sq))), (mT, .inl (cL, 243, .inr (.inl so))), (mD, .inl (cL, 500, .inr (.inl ds))), (mA, .inl (cI, 500, .inl as)), (mB, .inl (cI, 500, .inl bs)), (mG, .inl (cI, 500, .inl cs)), (mK, .inl (cI, 6, .inl kp))] := hD
      refine lv_aload_n hx hb d_M_early_25 rfl (lv_at hl 0 rfl) ?_
      refine va_get (D := (dC, dI)) (ci := 3) (v := .int 0) (C := "RoomEchoesModel") (T := FT_M) (N := 12) hx hb hts (hi_ in_M) hown hK hP 0 rfl rfl 0 (by decide) (ht_ hts mw424) (fun _ h9 => h9) rfl d_M_early_26 ?_
      refine lv_if_le (tgt := 34) hx hb d_M_early_29 (by decide) (fun c_29 => ?_) (fun c_29 => ?_)
      · skip
        refine lv_aload_n hx hb d_M_early_34 rfl (lv_at hl 0 rfl) ?_
        refine lv_sipush (v := 500) hx hb d_M_early_35 (by decide) ?_
        have hPc := hP.sub (ws' := [(aM, .inr (3, [.int 0, .ref mS, .ref mC, .ref mL, .ref mK, .int kn, .ref mQ, .ref mT, .ref mD, .ref mA, .ref mB, .ref mG])), (mS, .inl (cI, 3, .inl zs)), (mC, .inl (cI, 3, .inl sc)), (mL, .inl (cI, 3, .inl li)), (mQ, .inl (cL, 243, .inr (.inl sq))), (mT, .inl (cL, 243, .inr (.inl so))), (mD, .inl (cL, 500, .inr (.inl ds))), (mA, .inl (cI, 500, .inl as)), (mB, .inl (cI, 500, .inl bs)), (mG, .inl (cI, 500, .inl cs)), (mK, .inl (cI, 6, .inl kp))]) [0, 1, 2, 3, 4, 5, 6, 7, 8, 9, 10] rfl
        have hDc := hD.sub (ws' := [(aM, .inr (3, [.int 0, .ref mS, .ref mC, .ref mL, .ref mK, .int kn, .ref mQ, .ref mT, .ref mD, .ref mA, .ref mB, .ref mG])), (mS, .inl (cI, 3, .inl zs)), (mC, .inl (cI, 3, .inl sc)), (mL, .inl (cI, 3, .inl li)), (mQ, .inl (cL, 243, .inr (.inl sq))), (mT, .inl (cL, 243, .inr (.inl so))), (mD, .inl (cL, 500, .inr (.inl ds))), (mA, .inl (cI, 500, .inl as)), (mB, .inl (cI, 500, .inl bs)), (mG, .inl (cI, 500, .inl cs)), (mK, .inl (cI, 6, .inl kp))]) [0, 1, 2, 3, 4, 5, 6, 7, 8, 9, 10] (by decide) rfl
        refine wx_cl (wr := []) (w1 := fun (u : (Nat → Int64) × (Nat → Int64) × (Nat → Int64) × (Nat → Int32) × (Nat → Int32) × (Nat → Int32)) => [(aM, .inr (3, [.int 0, .ref mS, .ref mC, .ref mL, .ref mK, .int 1, .ref mQ, .ref mT, .ref mD, .ref mA, .ref mB, .ref mG])), (mS, .inl (cI, 3, .inl zs)), (mC, .inl (cI, 3, .inl sc)), (mL, .inl (cI, 3, .inl li)), (mQ, .inl (cL, 243, .inr (.inl u.1))), (mT, .inl (cL, 243, .inr (.inl u.2.1))), (mD, .inl (cL, 500, .inr (.inl u.2.2.1))), (mA, .inl (cI, 500, .inl u.2.2.2.1)), (mB, .inl (cI, 500, .inl u.2.2.2.2.1)), (mG, .inl (cI, 500, .inl u.2.2.2.2.2)), (mK, .inl (cI, 6, .inl kp))]) hP hD hS hA [0, 1, 2, 3, 4, 5, 6, 7, 8, 9, 10] [] rfl rfl (by decide) (by decide) (va_runV (As := [.int 500]) (rest := []) ⟨hx, hb, hml, hown, hts⟩ (c_M_first l dC dI cI cL aM 0 kn mS mC mL mK mQ mT mD mA mB mG zs sc li sq so ds as bs cs kp 500 _ hax hR (by omega)) (cwV 1 hts (gi_V mw573 mw570 mw572 mw26 mw33) rfl rfl rfl (by decide +kernel) ⟨Nat.le_of_ble_eq_true rfl, Nat.le_of_ble_eq_true rfl⟩) (wr_V hM hPc hDc rfl rfl rfl) rfl rfl hl.1 rfl (lv_room (Nat.le_of_ble_eq_true rfl)) d_M_early_38 ⟨Nat.le_of_ble_eq_true rfl, Nat.le_of_ble_eq_true rfl⟩) (fun r_7 u H locs hu_8 hP hD hS => ?_)
        obtain ⟨sq9_1, so9_2, ds9_3, as9_4, bs9_5, cs9_6⟩ := u
        have hu_8 : MRz zs sc li ds9_3 as9_4 bs9_5 cs9_6 ∧ r_7 = j_sum (mlo zs sc li kp as9_4 bs9_5 cs9_6) 0 500 := hu_8
        have hP := hP.sub (ws' := [(aM, .inr (3, [.int 0, .ref mS, .ref mC, .ref mL, .ref mK, .int 1, .ref mQ, .ref mT, .ref mD, .ref mA, .ref mB, .ref mG])), (mS, .inl (cI, 3, .inl zs)), (mC, .inl (cI, 3, .inl sc)), (mL, .inl (cI, 3, .inl li)), (mQ, .inl (cL, 243, .inr (.inl sq9_1))), (mT, .inl (cL, 243, .inr (.inl so9_2))), (mD, .inl (cL, 500, .inr (.inl ds9_3))), (mA, .inl (cI, 500, .inl as9_4)), (mB, .inl (cI, 500, .inl bs9_5)), (mG, .inl (cI, 500, .inl cs9_6)), (mK, .inl (cI, 6, .inl kp))]) [0, 1, 2, 3, 4, 5, 6, 7, 8, 9, 10] rfl
        have hD := hD.sub (ws' := [(aM, .inr (3, [.int 0, .ref mS, .ref mC, .ref mL, .ref mK, .int 1, .ref mQ, .ref mT, .ref mD, .ref mA, .ref mB, .ref mG])), (mS, .inl (cI, 3, .inl zs)), (mC, .inl (cI, 3, .inl sc)), (mL, .inl (cI, 3, .inl li)), (mQ, .inl (cL, 243, .inr (.inl sq9_1))), (mT, .inl (cL, 243, .inr (.inl so9_2))), (mD, .inl (cL, 500, .inr (.inl ds9_3))), (mA, .inl (cI, 500, .inl as9_4)), (mB, .inl (cI, 500, .inl bs9_5)), (mG, .inl (cI, 500, .inl cs9_6)), (mK, .inl (cI, 6, .inl kp))]) [0, 1, 2, 3, 4, 5, 6, 7, 8, 9, 10] (by decide) rfl
        obtain ⟨hm1, er1⟩ := hu_8
        subst er1
        have hbd := mr_bd hax hk hm1
        have hcu := j_cu_le ds9_3 d 500 0
        refine lv_lstore (lv' := [(4, .long (j_sum (mlo zs sc li kp as9_4 bs9_5 cs9_6) 0 500)), (0, .ref aM), (1, .long d), (3, .int pt)]) hx hb d_M_early_41 hl (by decide) rfl (fun ls hl => ?_)
        refine lv_lload hx hb d_M_early_43 (lv_at hl 0 rfl) ?_
        refine lv_lconst (v := 0) hx hb d_M_early_45 (by decide) ?_
        refine W.lcmp hx hb d_M_early_46 ?_
        refine lv_if_ne (tgt := 53) hx hb d_M_early_47 (by decide) (fun c_47 => ?_) (fun c_47 => ?_)
        · rw [lg_cmp_eq] at c_47
          refine lv_aload_n hx hb d_M_early_53 rfl (lv_at hl 1 rfl) ?_
          refine lv_aload_n hx hb d_M_early_54 rfl (lv_at hl 1 rfl) ?_
          refine lv_lload_n hx hb d_M_early_55 rfl (lv_at hl 2 rfl) ?_
          have hPc := hP.sub (ws' := [(aM, .inr (3, [.int 0, .ref mS, .ref mC, .ref mL, .ref mK, .int 1, .ref mQ, .ref mT, .ref mD, .ref mA, .ref mB, .ref mG])), (mD, .inl (cL, 500, .inr (.inl ds9_3)))]) [0, 6] rfl
          refine rd_c (va_runV (As := [.long d]) (rest := [.ref aM]) ⟨hx, hb, hml, hown, hts⟩ (c_M_countUntil1 l dC dI cI cL aM 0 mS mC mL mK mQ mT mD mA mB mG ds9_3 d) (cwV 1 hts (gi_V mw565 mw562 mw564 mw25 mw33) rfl rfl rfl (by decide +kernel) ⟨Nat.le_of_ble_eq_true rfl, Nat.le_of_ble_eq_true rfl⟩) (rd_V hM hPc rfl rfl rfl) rfl rfl hl.1 rfl (lv_room (Nat.le_of_ble_eq_true rfl)) d_M_early_56 ⟨Nat.le_of_ble_eq_true rfl, Nat.le_of_ble_eq_true rfl⟩) ?_
          have hPc := hP.sub (ws' := [(aM, .inr (3, [.int 0, .ref mS, .ref mC, .ref mL, .ref mK, .int 1, .ref mQ, .ref mT, .ref mD, .ref mA, .ref mB, .ref mG])), (mS, .inl (cI, 3, .inl zs)), (mC, .inl (cI, 3, .inl sc)), (mL, .inl (cI, 3, .inl li)), (mQ, .inl (cL, 243, .inr (.inl sq9_1))), (mT, .inl (cL, 243, .inr (.inl so9_2))), (mD, .inl (cL, 500, .inr (.inl ds9_3))), (mA, .inl (cI, 500, .inl as9_4)), (mB, .inl (cI, 500, .inl bs9_5)), (mG, .inl (cI, 500, .inl cs9_6)), (mK, .inl (cI, 6, .inl kp))]) [0, 1, 2, 3, 4, 5, 6, 7, 8, 9, 10] rfl
          refine rd_c (va_runV (As := [.int (nI (j_cu ds9_3 d 500 0))]) (rest := []) ⟨hx, hb, hml, hown, hts⟩ (c_M_first1 l dC dI cI cL aM 0 mS mC mL mK mQ mT mD mA mB mG zs sc li sq9_1 so9_2 ds9_3 as9_4 bs9_5 cs9_6 kp (j_cu ds9_3 d 500 0) hax hm1 (by omega)) (cwV 1 hts (gi_V mw573 mw570 mw572 mw26 mw33) rfl rfl rfl (by decide +kernel) ⟨Nat.le_of_ble_eq_true rfl, Nat.le_of_ble_eq_true rfl⟩) (rd_V hM hPc rfl rfl rfl) rfl rfl hl.1 rfl (lv_room (Nat.le_of_ble_eq_true rfl)) d_M_early_59 ⟨Nat.le_of_ble_eq_true rfl, Nat.le_of_ble_eq_true rfl⟩) ?_
          refine lv_lstore (lv' := [(6, .long (j_sum (mlo zs sc li kp as9_4 bs9_5 cs9_6) 0 (j_cu ds9_3 d 500 0))), (4, .long (j_sum (mlo zs sc li kp as9_4 bs9_5 cs9_6) 0 500)), (0, .ref aM), (1, .long d), (3, .int pt)]) hx hb d_M_early_62 hl (by decide) rfl (fun ls hl => ?_)
          refine lv_lload hx hb d_M_early_64 (lv_at hl 1 rfl) ?_
          refine lv_lload hx hb d_M_early_66 (lv_at hl 0 rfl) ?_
          refine rd_c (va_runS (As := [.long (j_sum (mlo zs sc li kp as9_4 bs9_5 cs9_6) 0 500), .long (j_sum (mlo zs sc li kp as9_4 bs9_5 cs9_6) 0 (j_cu ds9_3 d 500 0))]) (rest := []) ⟨hx, hb, hml, hown, hts⟩ (c_M_common l (j_sum (mlo zs sc li kp as9_4 bs9_5 cs9_6) 0 500) (j_sum (mlo zs sc li kp as9_4 bs9_5 cs9_6) 0 (j_cu ds9_3 d 500 0)) (js_bd hbd _ (by omega)).1 (js_mono hbd 500 (by omega) (Nat.le_refl _)) (by have := (js_bd hbd 500 (Nat.le_refl _)).2; omega)) (cwS 2 hts (gi_S mw584 mw582 mw583 mw33) rfl rfl rfl (by decide +kernel) ⟨Nat.le_of_ble_eq_true rfl, Nat.le_of_ble_eq_true rfl⟩) st_S rfl rfl hl.1 rfl (lv_room (Nat.le_of_ble_eq_true rfl)) d_M_early_68 ⟨Nat.le_of_ble_eq_true rfl, Nat.le_of_ble_eq_true rfl⟩) ?_
          refine lv_lstore (lv' := [(8, .long (j_gcd 1000 (j_sum (mlo zs sc li kp as9_4 bs9_5 cs9_6) 0 500) (j_sum (mlo zs sc li kp as9_4 bs9_5 cs9_6) 0 (j_cu ds9_3 d 500 0)))), (6, .long (j_sum (mlo zs sc li kp as9_4 bs9_5 cs9_6) 0 (j_cu ds9_3 d 500 0))), (4, .long (j_sum (mlo zs sc li kp as9_4 bs9_5 cs9_6) 0 500)), (0, .ref aM), (1, .long d), (3, .int pt)]) hx hb d_M_early_71 hl (by decide) rfl (fun ls hl => ?_)
          refine lv_iload_n hx hb d_M_early_73 rfl (lv_at hl 5 rfl) ?_
          refine lv_if_ne (tgt := 85) hx hb d_M_early_74 (by decide) (fun c_74 => ?_) (fun c_74 => ?_)
          · skip
            refine lv_lload hx hb d_M_early_85 (lv_at hl 2 rfl) ?_
            refine lv_lload hx hb d_M_early_87 (lv_at hl 0 rfl) ?_
            refine lv_ldiv hx hb d_M_early_89 (gc_ne _ _ _ c_47) ?_
            have hP9 : va_P (dC, dI) vwCl [(aM, .inr (3, [.int 0, .ref mS, .ref mC, .ref mL, .ref mK, .int 1, .ref mQ, .ref mT, .ref mD, .ref mA, .ref mB, .ref mG])), (mS, .inl (cI, 3, .inl zs)), (mC, .inl (cI, 3, .inl sc)), (mL, .inl (cI, 3, .inl li)), (mQ, .inl (cL, 243, .inr (.inl sq9_1))), (mT, .inl (cL, 243, .inr (.inl so9_2))), (mD, .inl (cL, 500, .inr (.inl ds9_3))), (mA, .inl (cI, 500, .inl as9_4)), (mB, .inl (cI, 500, .inl bs9_5)), (mG, .inl (cI, 500, .inl cs9_6)), (mK, .inl (cI, 6, .inl kp))] _ := hP
            have hD9 : va_D A [(aM, .inr (3, [.int 0, .ref mS, .ref mC, .ref mL, .ref mK, .int 1, .ref mQ, .ref mT, .ref mD, .ref mA, .ref mB, .ref mG])), (mS, .inl (cI, 3, .inl zs)), (mC, .inl (cI, 3, .inl sc)), (mL, .inl (cI, 3, .inl li)), (mQ, .inl (cL, 243, .inr (.inl sq9_1))), (mT, .inl (cL, 243, .inr (.inl so9_2))), (mD, .inl (cL, 500, .inr (.inl ds9_3))), (mA, .inl (cI, 500, .inl as9_4)), (mB, .inl (cI, 500, .inl bs9_5)), (mG, .inl (cI, 500, .inl cs9_6)), (mK, .inl (cI, 6, .inl kp))] := hD
            exact W.lret (v := (j_sum (mlo zs sc li kp as9_4 bs9_5 cs9_6) 0 500) / (j_gcd 1000 (j_sum (mlo zs sc li kp as9_4 bs9_5 cs9_6) 0 500) (j_sum (mlo zs sc li kp as9_4 bs9_5 cs9_6) 0 (j_cu ds9_3 d 500 0)))) hx hb hr (fun t ht hW => ⟨⟨_, (sq9_1, so9_2, ds9_3, as9_4, bs9_5, cs9_6), rfl, ⟨hm1, me_2 c_47 c_74⟩, by rw [ht]; exact hP9, hD9⟩, hS.F ht⟩) hS.2.2 d_M_early_90
          · skip
            refine lv_lload hx hb d_M_early_77 (lv_at hl 1 rfl) ?_
            refine lv_lload hx hb d_M_early_79 (lv_at hl 0 rfl) ?_
            refine lv_ldiv hx hb d_M_early_81 (gc_ne _ _ _ c_47) ?_
            refine lv_goto (tgt := 90) hx hb d_M_early_82 (by decide) ?_
            have hP9 : va_P (dC, dI) vwCl [(aM, .inr (3, [.int 0, .ref mS, .ref mC, .ref mL, .ref mK, .int 1, .ref mQ, .ref mT, .ref mD, .ref mA, .ref mB, .ref mG])), (mS, .inl (cI, 3, .inl zs)), (mC, .inl (cI, 3, .inl sc)), (mL, .inl (cI, 3, .inl li)), (mQ, .inl (cL, 243, .inr (.inl sq9_1))), (mT, .inl (cL, 243, .inr (.inl so9_2))), (mD, .inl (cL, 500, .inr (.inl ds9_3))), (mA, .inl (cI, 500, .inl as9_4)), (mB, .inl (cI, 500, .inl bs9_5)), (mG, .inl (cI, 500, .inl cs9_6)), (mK, .inl (cI, 6, .inl kp))] _ := hP
            have hD9 : va_D A [(aM, .inr (3, [.int 0, .ref mS, .ref mC, .ref mL, .ref mK, .int 1, .ref mQ, .ref mT, .ref mD, .ref mA, .ref mB, .ref mG])), (mS, .inl (cI, 3, .inl zs)), (mC, .inl (cI, 3, .inl sc)), (mL, .inl (cI, 3, .inl li)), (mQ, .inl (cL, 243, .inr (.inl sq9_1))), (mT, .inl (cL, 243, .inr (.inl so9_2))), (mD, .inl (cL, 500, .inr (.inl ds9_3))), (mA, .inl (cI, 500, .inl as9_4)), (mB, .inl (cI, 500, .inl bs9_5)), (mG, .inl (cI, 500, .inl cs9_6)), (mK, .inl (cI, 6, .inl kp))] := hD
            exact W.lret (v := (j_sum (mlo zs sc li kp as9_4 bs9_5 cs9_6) 0 (j_cu ds9_3 d 500 0)) / (j_gcd 1000 (j_sum (mlo zs sc li kp as9_4 bs9_5 cs9_6) 0 500) (j_sum (mlo zs sc li kp as9_4 bs9_5 cs9_6) 0 (j_cu ds9_3 d 500 0)))) hx hb hr (fun t ht hW => ⟨⟨_, (sq9_1, so9_2, ds9_3, as9_4, bs9_5, cs9_6), rfl, ⟨hm1, me_1 c_47 c_74⟩, by rw [ht]; exact hP9, hD9⟩, hS.F ht⟩) hS.2.2 d_M_early_90
        · rw [lg_cmp_eq] at c_47
          refine lv_iload_n hx hb d_M_early_50 rfl (lv_at hl 3 rfl) ?_
          refine lv_i2l hx hb d_M_early_51 rfl ?_
          have hP9 : va_P (dC, dI) vwCl [(aM, .inr (3, [.int 0, .ref mS, .ref mC, .ref mL, .ref mK, .int 1, .ref mQ, .ref mT, .ref mD, .ref mA, .ref mB, .ref mG])), (mS, .inl (cI, 3, .inl zs)), (mC, .inl (cI, 3, .inl sc)), (mL, .inl (cI, 3, .inl li)), (mQ, .inl (cL, 243, .inr (.inl sq9_1))), (mT, .inl (cL, 243, .inr (.inl so9_2))), (mD, .inl (cL, 500, .inr (.inl ds9_3))), (mA, .inl (cI, 500, .inl as9_4)), (mB, .inl (cI, 500, .inl bs9_5)), (mG, .inl (cI, 500, .inl cs9_6)), (mK, .inl (cI, 6, .inl kp))] _ := hP
          have hD9 : va_D A [(aM, .inr (3, [.int 0, .ref mS, .ref mC, .ref mL, .ref mK, .int 1, .ref mQ, .ref mT, .ref mD, .ref mA, .ref mB, .ref mG])), (mS, .inl (cI, 3, .inl zs)), (mC, .inl (cI, 3, .inl sc)), (mL, .inl (cI, 3, .inl li)), (mQ, .inl (cL, 243, .inr (.inl sq9_1))), (mT, .inl (cL, 243, .inr (.inl so9_2))), (mD, .inl (cL, 500, .inr (.inl ds9_3))), (mA, .inl (cI, 500, .inl as9_4)), (mB, .inl (cI, 500, .inl bs9_5)), (mG, .inl (cI, 500, .inl cs9_6)), (mK, .inl (cI, 6, .inl kp))] := hD
          exact W.lret (v := pt.toInt64) hx hb hr (fun t ht hW => ⟨⟨_, (sq9_1, so9_2, ds9_3, as9_4, bs9_5, cs9_6), rfl, ⟨hm1, me_0 c_47⟩, by rw [ht]; exact hP9, hD9⟩, hS.F ht⟩) hS.2.2 d_M_early_52
      · skip
        exact absurd (by decide) c_29

set_option maxHeartbeats 4000000 in
set_option maxRecDepth 100000 in
theorem n_M_early (l : Launch) (dC : Nat → ClassId) (dI : Nat → Nat → Nat) (cI cL : ClassId) (aM : Nat) (th0 : Int32) (kn : Int32) (mS : Nat) (mC : Nat) (mL : Nat) (mK : Nat) (mQ : Nat) (mT : Nat) (mD : Nat) (mA : Nat) (mB : Nat) (mG : Nat) (d : Int64) (pt : Int32) (sz : Nat) (h : ¬ (0 ≤ d ∧ wi pt 0 1)) : Met l y_M_early w_M_early ({ frames := 1, cells := 0, slots := 0, locals := 25 }) (wr_P (dC, dI) cI cL [(aM, .inr (3, [.int th0, .ref mS, .ref mC, .ref mL, .ref mK, .int kn, .ref mQ, .ref mT, .ref mD, .ref mA, .ref mB, .ref mG]))] sz [.ref aM, .long d, .int pt]) (wr_l 0 (dC, dI) (va_A [(aM, .inr (3, [.int th0, .ref mS, .ref mC, .ref mL, .ref mK, .int kn, .ref mQ, .ref mT, .ref mD, .ref mA, .ref mB, .ref mG]))] sz) [(aM, .inr (3, [.int 1, .ref mS, .ref mC, .ref mL, .ref mK, .int kn, .ref mQ, .ref mT, .ref mD, .ref mA, .ref mB, .ref mG]))]) 0 0 (va_A [(aM, .inr (3, [.int th0, .ref mS, .ref mC, .ref mL, .ref mK, .int kn, .ref mQ, .ref mT, .ref mD, .ref mA, .ref mB, .ref mG]))] sz) := by
  refine Met.ofW (cc := b_M_early) (maxL := 10) (ret := (some .long)) (by decide) rfl ?_
  intro p e s m args below meth c s₁ B hml hv
  obtain ⟨rfl, hsz, hP, hM, hD0⟩ := hv
  have hx := B.exec
  have hb := B.bytes
  have hr := B.returns
  have hts := atoms_spec (ws := w_M_early) B.pre
  have hown : s.vm.findClass "RoomEchoesModel" = some m.cls := findClass_of_methodNamed B.named
  have hlocks := B.notSynchronized
  have hK := hM.1
  subst hsz
  have hD := hD0.self (sz := s.heap.size)
  generalize hAe : va_A [(aM, .inr (3, [.int th0, .ref mS, .ref mC, .ref mL, .ref mK, .int kn, .ref mQ, .ref mT, .ref mD, .ref mA, .ref mB, .ref mG]))] s.heap.size = A at hD ⊢
  have hA : ∀ q : Nat, s.heap.size ≤ q → A q := fun q h => by rw [← hAe]; exact Or.inr h
  have hS : va_S A s.heap s.heap [] := va_S.rf
  have hP : va_P (dC, dI) vwCl [(aM, .inr (3, [.int th0, .ref mS, .ref mC, .ref mL, .ref mK, .int kn, .ref mQ, .ref mT, .ref mD, .ref mA, .ref mB, .ref mG]))] s.heap := hP
  have hl := lv_entry ([.ref aM, .long d, .int pt]) (n := 10) (Nat.le_of_ble_eq_true rfl)
  rw [lg_entry_eq]
  generalize (lg_sl ([.ref aM, .long d, .int pt]) ++ List.replicate (10 - (lg_sl ([.ref aM, .long d, .int pt])).length) Slot.unset).toArray = ls at hl ⊢
  have hl : lv_has ls 10 [(0, .ref aM), (1, .long d), (3, .int pt)] := hl
  refine lv_aload_n hx hb d_M_early_0 rfl (lv_at hl 0 rfl) ?_
  refine lv_lload_n hx hb d_M_early_1 rfl (lv_at hl 1 rfl) ?_
  refine lv_lconst (v := 0) hx hb d_M_early_2 (by decide) ?_
  refine W.lcmp hx hb d_M_early_3 ?_
  refine lv_if_lt (tgt := 21) hx hb d_M_early_4 (by decide) (fun c_4 => ?_) (fun c_4 => ?_)
  · rw [lg_cmp_lt] at c_4
    refine lv_iconst (v := 1) hx hb d_M_early_21 (by decide) ?_
    refine va_put (D := (dC, dI)) (ci := 3) (v := .int 1) (ty := .int) (C := "RoomEchoesModel") (T := FT_M) (N := 12) hx hb hts (hi_ in_M) ty_M tyo_M nm_M hown hK hP hD hS 0 rfl rfl 0 (by decide) (ht_ hts mw424) (fun _ h9 => h9) rfl (by decide +kernel) rfl rfl (Nat.le_of_ble_eq_true rfl) d_M_early_22 (fun H locs hP hD hS => ?_)
    have hP : va_P (dC, dI) vwCl [(aM, .inr (3, [.int 1, .ref mS, .ref mC, .ref mL, .ref mK, .int kn, .ref mQ, .ref mT, .ref mD, .ref mA, .ref mB, .ref mG]))] H := hP
    have hD : va_D A [(aM, .inr (3, [.int 1, .ref mS, .ref mC, .ref mL, .ref mK, .int kn, .ref mQ, .ref mT, .ref mD, .ref mA, .ref mB, .ref mG]))] := hD
    refine lv_aload_n hx hb d_M_early_25 rfl (lv_at hl 0 rfl) ?_
    refine va_get (D := (dC, dI)) (ci := 3) (v := .int 1) (C := "RoomEchoesModel") (T := FT_M) (N := 12) hx hb hts (hi_ in_M) hown hK hP 0 rfl rfl 0 (by decide) (ht_ hts mw424) (fun _ h9 => h9) rfl d_M_early_26 ?_
    refine lv_if_le (tgt := 34) hx hb d_M_early_29 (by decide) (fun c_29 => ?_) (fun c_29 => ?_)
    · skip
      exact absurd c_29 (by decide)
    · skip
      refine lv_lconst (v := 0) hx hb d_M_early_32 (by decide) ?_
      have hP9 : va_P (dC, dI) vwCl [(aM, .inr (3, [.int 1, .ref mS, .ref mC, .ref mL, .ref mK, .int kn, .ref mQ, .ref mT, .ref mD, .ref mA, .ref mB, .ref mG]))] H := hP
      have hD9 : va_D A [(aM, .inr (3, [.int 1, .ref mS, .ref mC, .ref mL, .ref mK, .int kn, .ref mQ, .ref mT, .ref mD, .ref mA, .ref mB, .ref mG]))] := hD
      exact W.lret (v := 0) hx hb hr (fun t ht hW => ⟨⟨_, (), rfl, rfl, by rw [ht]; exact hP9, hD9⟩, hS.F ht⟩) hS.2.2 d_M_early_33
  · rw [lg_cmp_lt] at c_4
    refine lv_iload_n hx hb d_M_early_7 rfl (lv_at hl 2 rfl) ?_
    refine lv_i2l hx hb d_M_early_8 rfl ?_
    refine lv_lconst (v := 0) hx hb d_M_early_9 (by decide) ?_
    refine lv_lconst (v := 1) hx hb d_M_early_10 (by decide) ?_
    refine rd_c (va_runS (As := [.long pt.toInt64, .long 0, .long 1]) (rest := [.ref aM]) ⟨hx, hb, hml, hown, hts⟩ (c_M_in l pt.toInt64 0 1) (cwS 3 hts (gi_S mw475 mw473 mw474 mw33) rfl rfl rfl (by decide +kernel) ⟨Nat.le_of_ble_eq_true rfl, Nat.le_of_ble_eq_true rfl⟩) st_S rfl rfl hl.1 rfl (lv_room (Nat.le_of_ble_eq_true rfl)) d_M_early_11 ⟨Nat.le_of_ble_eq_true rfl, Nat.le_of_ble_eq_true rfl⟩) ?_
    refine lv_if_eq (tgt := 21) hx hb d_M_early_14 (by decide) (fun c_14 => ?_) (fun c_14 => ?_)
    · skip
      refine lv_iconst (v := 1) hx hb d_M_early_21 (by decide) ?_
      refine va_put (D := (dC, dI)) (ci := 3) (v := .int 1) (ty := .int) (C := "RoomEchoesModel") (T := FT_M) (N := 12) hx hb hts (hi_ in_M) ty_M tyo_M nm_M hown hK hP hD hS 0 rfl rfl 0 (by decide) (ht_ hts mw424) (fun _ h9 => h9) rfl (by decide +kernel) rfl rfl (Nat.le_of_ble_eq_true rfl) d_M_early_22 (fun H locs hP hD hS => ?_)
      have hP : va_P (dC, dI) vwCl [(aM, .inr (3, [.int 1, .ref mS, .ref mC, .ref mL, .ref mK, .int kn, .ref mQ, .ref mT, .ref mD, .ref mA, .ref mB, .ref mG]))] H := hP
      have hD : va_D A [(aM, .inr (3, [.int 1, .ref mS, .ref mC, .ref mL, .ref mK, .int kn, .ref mQ, .ref mT, .ref mD, .ref mA, .ref mB, .ref mG]))] := hD
      refine lv_aload_n hx hb d_M_early_25 rfl (lv_at hl 0 rfl) ?_
      refine va_get (D := (dC, dI)) (ci := 3) (v := .int 1) (C := "RoomEchoesModel") (T := FT_M) (N := 12) hx hb hts (hi_ in_M) hown hK hP 0 rfl rfl 0 (by decide) (ht_ hts mw424) (fun _ h9 => h9) rfl d_M_early_26 ?_
      refine lv_if_le (tgt := 34) hx hb d_M_early_29 (by decide) (fun c_29 => ?_) (fun c_29 => ?_)
      · skip
        exact absurd c_29 (by decide)
      · skip
        refine lv_lconst (v := 0) hx hb d_M_early_32 (by decide) ?_
        have hP9 : va_P (dC, dI) vwCl [(aM, .inr (3, [.int 1, .ref mS, .ref mC, .ref mL, .ref mK, .int kn, .ref mQ, .ref mT, .ref mD, .ref mA, .ref mB, .ref mG]))] H := hP
        have hD9 : va_D A [(aM, .inr (3, [.int 1, .ref mS, .ref mC, .ref mL, .ref mK, .int kn, .ref mQ, .ref mT, .ref mD, .ref mA, .ref mB, .ref mG]))] := hD
        exact W.lret (v := 0) hx hb hr (fun t ht hW => ⟨⟨_, (), rfl, rfl, by rw [ht]; exact hP9, hD9⟩, hS.F ht⟩) hS.2.2 d_M_early_33
    · skip
      exact absurd ⟨by rw [pu_lt] at c_4; rw [pu_le]; omega, in_n (lo := 0) (hi := 1) (by decide) (by decide) c_14⟩ h

set_option maxHeartbeats 4000000 in
set_option maxRecDepth 100000 in
theorem c_M_enough (l : Launch) (dC : Nat → ClassId) (dI : Nat → Nat → Nat) (cI cL : ClassId) (aM : Nat) (th0 : Int32) (kn : Int32) (mS : Nat) (mC : Nat) (mL : Nat) (mK : Nat) (mQ : Nat) (mT : Nat) (mD : Nat) (mA : Nat) (mB : Nat) (mG : Nat) (zs : Nat → Int32) (sc : Nat → Int32) (li : Nat → Int32) (sq : Nat → Int64) (so : Nat → Int64) (ds : Nat → Int64) (as : Nat → Int32) (bs : Nat → Int32) (cs : Nat → Int32) (kp : Nat → Int32) (th : Int32) (sz : Nat) (hax : ax3k zs sc li) (hR : kn = 0 ∨ (kn = 1 ∧ MRz zs sc li ds as bs cs)) (hk : kpok kp) (h : wi th 0 1000) : Met l y_M_enough w_M_enough ({ frames := 5, cells := 0, slots := 0, locals := 121 }) (wr_P (dC, dI) cI cL [(aM, .inr (3, [.int th0, .ref mS, .ref mC, .ref mL, .ref mK, .int kn, .ref mQ, .ref mT, .ref mD, .ref mA, .ref mB, .ref mG])), (mS, .inl (cI, 3, .inl zs)), (mC, .inl (cI, 3, .inl sc)), (mL, .inl (cI, 3, .inl li)), (mQ, .inl (cL, 243, .inr (.inl sq))), (mT, .inl (cL, 243, .inr (.inl so))), (mD, .inl (cL, 500, .inr (.inl ds))), (mA, .inl (cI, 500, .inl as)), (mB, .inl (cI, 500, .inl bs)), (mG, .inl (cI, 500, .inl cs)), (mK, .inl (cI, 6, .inl kp))] sz [.ref aM, .int th]) (va_Qi (fun (r9 : Int32) (u : (Nat → Int64) × (Nat → Int64) × (Nat → Int64) × (Nat → Int32) × (Nat → Int32) × (Nat → Int32)) => MRz zs sc li u.2.2.1 u.2.2.2.1 u.2.2.2.2.1 u.2.2.2.2.2 ∧ r9 = j_en (mlo zs sc li kp u.2.2.2.1 u.2.2.2.2.1 u.2.2.2.2.2) (j_sum (mlo zs sc li kp u.2.2.2.1 u.2.2.2.2.1 u.2.2.2.2.2) 0 500 * th.toInt64) 500 0 0) (fun u t => va_P (dC, dI) vwCl [(aM, .inr (3, [.int 0, .ref mS, .ref mC, .ref mL, .ref mK, .int 1, .ref mQ, .ref mT, .ref mD, .ref mA, .ref mB, .ref mG])), (mS, .inl (cI, 3, .inl zs)), (mC, .inl (cI, 3, .inl sc)), (mL, .inl (cI, 3, .inl li)), (mQ, .inl (cL, 243, .inr (.inl u.1))), (mT, .inl (cL, 243, .inr (.inl u.2.1))), (mD, .inl (cL, 500, .inr (.inl u.2.2.1))), (mA, .inl (cI, 500, .inl u.2.2.2.1)), (mB, .inl (cI, 500, .inl u.2.2.2.2.1)), (mG, .inl (cI, 500, .inl u.2.2.2.2.2)), (mK, .inl (cI, 6, .inl kp))] t.heap ∧ va_D (va_A [(aM, .inr (3, [.int th0, .ref mS, .ref mC, .ref mL, .ref mK, .int kn, .ref mQ, .ref mT, .ref mD, .ref mA, .ref mB, .ref mG])), (mS, .inl (cI, 3, .inl zs)), (mC, .inl (cI, 3, .inl sc)), (mL, .inl (cI, 3, .inl li)), (mQ, .inl (cL, 243, .inr (.inl sq))), (mT, .inl (cL, 243, .inr (.inl so))), (mD, .inl (cL, 500, .inr (.inl ds))), (mA, .inl (cI, 500, .inl as)), (mB, .inl (cI, 500, .inl bs)), (mG, .inl (cI, 500, .inl cs)), (mK, .inl (cI, 6, .inl kp))] sz) [(aM, .inr (3, [.int 0, .ref mS, .ref mC, .ref mL, .ref mK, .int 1, .ref mQ, .ref mT, .ref mD, .ref mA, .ref mB, .ref mG])), (mS, .inl (cI, 3, .inl zs)), (mC, .inl (cI, 3, .inl sc)), (mL, .inl (cI, 3, .inl li)), (mQ, .inl (cL, 243, .inr (.inl u.1))), (mT, .inl (cL, 243, .inr (.inl u.2.1))), (mD, .inl (cL, 500, .inr (.inl u.2.2.1))), (mA, .inl (cI, 500, .inl u.2.2.2.1)), (mB, .inl (cI, 500, .inl u.2.2.2.2.1)), (mG, .inl (cI, 500, .inl u.2.2.2.2.2)), (mK, .inl (cI, 6, .inl kp))]) (va_A [(aM, .inr (3, [.int th0, .ref mS, .ref mC, .ref mL, .ref mK, .int kn, .ref mQ, .ref mT, .ref mD, .ref mA, .ref mB, .ref mG])), (mS, .inl (cI, 3, .inl zs)), (mC, .inl (cI, 3, .inl sc)), (mL, .inl (cI, 3, .inl li)), (mQ, .inl (cL, 243, .inr (.inl sq))), (mT, .inl (cL, 243, .inr (.inl so))), (mD, .inl (cL, 500, .inr (.inl ds))), (mA, .inl (cI, 500, .inl as)), (mB, .inl (cI, 500, .inl bs)), (mG, .inl (cI, 500, .inl cs)), (mK, .inl (cI, 6, .inl kp))] sz)) 0 0 (va_A [(aM, .inr (3, [.int th0, .ref mS, .ref mC, .ref mL, .ref mK, .int kn, .ref mQ, .ref mT, .ref mD, .ref mA, .ref mB, .ref mG])), (mS, .inl (cI, 3, .inl zs)), (mC, .inl (cI, 3, .inl sc)), (mL, .inl (cI, 3, .inl li)), (mQ, .inl (cL, 243, .inr (.inl sq))), (mT, .inl (cL, 243, .inr (.inl so))), (mD, .inl (cL, 500, .inr (.inl ds))), (mA, .inl (cI, 500, .inl as)), (mB, .inl (cI, 500, .inl bs)), (mG, .inl (cI, 500, .inl cs)), (mK, .inl (cI, 6, .inl kp))] sz) := by
  refine Met.ofW (cc := b_M_enough) (maxL := 7) (ret := (some .int)) (by decide) rfl ?_
  intro p e s m args below meth c s₁ B hml hv
  obtain ⟨rfl, hsz, hP, hM, hD0⟩ := hv
  have hx := B.exec
  have hb := B.bytes
  have hr := B.returns
  have hts := atoms_spec (ws := w_M_enough) B.pre
  have hown : s.vm.findClass "RoomEchoesModel" = some m.cls := findClass_of_methodNamed B.named
  have hlocks := B.notSynchronized
  have hK := hM.1
  subst hsz
  have hD := hD0.self (sz := s.heap.size)
  generalize hAe : va_A [(aM, .inr (3, [.int th0, .ref mS, .ref mC, .ref mL, .ref mK, .int kn, .ref mQ, .ref mT, .ref mD, .ref mA, .ref mB, .ref mG])), (mS, .inl (cI, 3, .inl zs)), (mC, .inl (cI, 3, .inl sc)), (mL, .inl (cI, 3, .inl li)), (mQ, .inl (cL, 243, .inr (.inl sq))), (mT, .inl (cL, 243, .inr (.inl so))), (mD, .inl (cL, 500, .inr (.inl ds))), (mA, .inl (cI, 500, .inl as)), (mB, .inl (cI, 500, .inl bs)), (mG, .inl (cI, 500, .inl cs)), (mK, .inl (cI, 6, .inl kp))] s.heap.size = A at hD ⊢
  have hA : ∀ q : Nat, s.heap.size ≤ q → A q := fun q h => by rw [← hAe]; exact Or.inr h
  have hS : va_S A s.heap s.heap [] := va_S.rf
  have hP : va_P (dC, dI) vwCl [(aM, .inr (3, [.int th0, .ref mS, .ref mC, .ref mL, .ref mK, .int kn, .ref mQ, .ref mT, .ref mD, .ref mA, .ref mB, .ref mG])), (mS, .inl (cI, 3, .inl zs)), (mC, .inl (cI, 3, .inl sc)), (mL, .inl (cI, 3, .inl li)), (mQ, .inl (cL, 243, .inr (.inl sq))), (mT, .inl (cL, 243, .inr (.inl so))), (mD, .inl (cL, 500, .inr (.inl ds))), (mA, .inl (cI, 500, .inl as)), (mB, .inl (cI, 500, .inl bs)), (mG, .inl (cI, 500, .inl cs)), (mK, .inl (cI, 6, .inl kp))] s.heap := hP
  have hl := lv_entry ([.ref aM, .int th]) (n := 7) (Nat.le_of_ble_eq_true rfl)
  rw [lg_entry_eq]
  generalize (lg_sl ([.ref aM, .int th]) ++ List.replicate (7 - (lg_sl ([.ref aM, .int th])).length) Slot.unset).toArray = ls at hl ⊢
  have hl : lv_has ls 7 [(0, .ref aM), (1, .int th)] := hl
  refine lv_aload_n hx hb d_M_enough_0 rfl (lv_at hl 0 rfl) ?_
  refine lv_iload_n hx hb d_M_enough_1 rfl (lv_at hl 1 rfl) ?_
  refine lv_i2l hx hb d_M_enough_2 rfl ?_
  refine lv_lconst (v := 0) hx hb d_M_enough_3 (by decide) ?_
  refine lv_ldc2 (v := 1000) hx hb hown (ht_ hts mw485) d_M_enough_4 ?_
  refine rd_c (va_runS (As := [.long th.toInt64, .long 0, .long 1000]) (rest := [.ref aM]) ⟨hx, hb, hml, hown, hts⟩ (c_M_in l th.toInt64 0 1000) (cwS 3 hts (gi_S mw475 mw473 mw474 mw33) rfl rfl rfl (by decide +kernel) ⟨Nat.le_of_ble_eq_true rfl, Nat.le_of_ble_eq_true rfl⟩) st_S rfl rfl hl.1 rfl (lv_room (Nat.le_of_ble_eq_true rfl)) d_M_enough_7 ⟨Nat.le_of_ble_eq_true rfl, Nat.le_of_ble_eq_true rfl⟩) ?_
  refine tp_i 1 (in_yes (lo := 0) (hi := 1000) (by decide) (by decide) h) ?_
  refine lv_if_eq (tgt := 17) hx hb d_M_enough_10 (by decide) (fun c_10 => ?_) (fun c_10 => ?_)
  · skip
    exact absurd c_10 (by decide)
  · skip
    refine lv_iconst (v := 0) hx hb d_M_enough_13 (by decide) ?_
    refine lv_goto (tgt := 18) hx hb d_M_enough_14 (by decide) ?_
    refine va_put (D := (dC, dI)) (ci := 3) (v := .int 0) (ty := .int) (C := "RoomEchoesModel") (T := FT_M) (N := 12) hx hb hts (hi_ in_M) ty_M tyo_M nm_M hown hK hP hD hS 0 rfl rfl 0 (by decide) (ht_ hts mw424) (fun _ h9 => h9) rfl (by decide +kernel) rfl rfl (Nat.le_of_ble_eq_true rfl) d_M_enough_18 (fun H locs hP hD hS => ?_)
    have hP : va_P (dC, dI) vwCl [(aM, .inr (3, [.int 0, .ref mS, .ref mC, .ref mL, .ref mK, .int kn, .ref mQ, .ref mT, .ref mD, .ref mA, .ref mB, .ref mG])), (mS, .inl (cI, 3, .inl zs)), (mC, .inl (cI, 3, .inl sc)), (mL, .inl (cI, 3, .inl li)), (mQ, .inl (cL, 243, .inr (.inl sq))), (mT, .inl (cL, 243, .inr (.inl so))), (mD, .inl (cL, 500, .inr (.inl ds))), (mA, .inl (cI, 500, .inl as)), (mB, .inl (cI, 500, .inl bs)), (mG, .inl (cI, 500, .inl cs)), (mK, .inl (cI, 6, .inl kp))] H := hP
    have hD : va_D A [(aM, .inr (3, [.int 0, .ref mS, .ref mC, .ref mL, .ref mK, .int kn, .ref mQ, .ref mT, .ref mD, .ref mA, .ref mB, .ref mG])), (mS, .inl (cI, 3, .inl zs)), (mC, .inl (cI, 3, .inl sc)), (mL, .inl (cI, 3, .inl li)), (mQ, .inl (cL, 243, .inr (.inl sq))), (mT, .inl (cL, 243, .inr (.inl so))), (mD, .inl (cL, 500, .inr (.inl ds))), (mA, .inl (cI, 500, .inl as)), (mB, .inl (cI, 500, .inl bs)), (mG, .inl (cI, 500, .inl cs)), (mK, .inl (cI, 6, .inl kp))] := hD
    refine lv_aload_n hx hb d_M_enough_21 rfl (lv_at hl 0 rfl) ?_
    refine va_get (D := (dC, dI)) (ci := 3) (v := .int 0) (C := "RoomEchoesModel") (T := FT_M) (N := 12) hx hb hts (hi_ in_M) hown hK hP 0 rfl rfl 0 (by decide) (ht_ hts mw424) (fun _ h9 => h9) rfl d_M_enough_22 ?_
    refine lv_if_le (tgt := 30) hx hb d_M_enough_25 (by decide) (fun c_25 => ?_) (fun c_25 => ?_)
    · skip
      refine lv_aload_n hx hb d_M_enough_30 rfl (lv_at hl 0 rfl) ?_
      refine lv_sipush (v := 500) hx hb d_M_enough_31 (by decide) ?_
      have hPc := hP.sub (ws' := [(aM, .inr (3, [.int 0, .ref mS, .ref mC, .ref mL, .ref mK, .int kn, .ref mQ, .ref mT, .ref mD, .ref mA, .ref mB, .ref mG])), (mS, .inl (cI, 3, .inl zs)), (mC, .inl (cI, 3, .inl sc)), (mL, .inl (cI, 3, .inl li)), (mQ, .inl (cL, 243, .inr (.inl sq))), (mT, .inl (cL, 243, .inr (.inl so))), (mD, .inl (cL, 500, .inr (.inl ds))), (mA, .inl (cI, 500, .inl as)), (mB, .inl (cI, 500, .inl bs)), (mG, .inl (cI, 500, .inl cs)), (mK, .inl (cI, 6, .inl kp))]) [0, 1, 2, 3, 4, 5, 6, 7, 8, 9, 10] rfl
      have hDc := hD.sub (ws' := [(aM, .inr (3, [.int 0, .ref mS, .ref mC, .ref mL, .ref mK, .int kn, .ref mQ, .ref mT, .ref mD, .ref mA, .ref mB, .ref mG])), (mS, .inl (cI, 3, .inl zs)), (mC, .inl (cI, 3, .inl sc)), (mL, .inl (cI, 3, .inl li)), (mQ, .inl (cL, 243, .inr (.inl sq))), (mT, .inl (cL, 243, .inr (.inl so))), (mD, .inl (cL, 500, .inr (.inl ds))), (mA, .inl (cI, 500, .inl as)), (mB, .inl (cI, 500, .inl bs)), (mG, .inl (cI, 500, .inl cs)), (mK, .inl (cI, 6, .inl kp))]) [0, 1, 2, 3, 4, 5, 6, 7, 8, 9, 10] (by decide) rfl
      refine wx_cl (wr := []) (w1 := fun (u : (Nat → Int64) × (Nat → Int64) × (Nat → Int64) × (Nat → Int32) × (Nat → Int32) × (Nat → Int32)) => [(aM, .inr (3, [.int 0, .ref mS, .ref mC, .ref mL, .ref mK, .int 1, .ref mQ, .ref mT, .ref mD, .ref mA, .ref mB, .ref mG])), (mS, .inl (cI, 3, .inl zs)), (mC, .inl (cI, 3, .inl sc)), (mL, .inl (cI, 3, .inl li)), (mQ, .inl (cL, 243, .inr (.inl u.1))), (mT, .inl (cL, 243, .inr (.inl u.2.1))), (mD, .inl (cL, 500, .inr (.inl u.2.2.1))), (mA, .inl (cI, 500, .inl u.2.2.2.1)), (mB, .inl (cI, 500, .inl u.2.2.2.2.1)), (mG, .inl (cI, 500, .inl u.2.2.2.2.2)), (mK, .inl (cI, 6, .inl kp))]) hP hD hS hA [0, 1, 2, 3, 4, 5, 6, 7, 8, 9, 10] [] rfl rfl (by decide) (by decide) (va_runV (As := [.int 500]) (rest := []) ⟨hx, hb, hml, hown, hts⟩ (c_M_first l dC dI cI cL aM 0 kn mS mC mL mK mQ mT mD mA mB mG zs sc li sq so ds as bs cs kp 500 _ hax hR (by omega)) (cwV 1 hts (gi_V mw573 mw570 mw572 mw26 mw33) rfl rfl rfl (by decide +kernel) ⟨Nat.le_of_ble_eq_true rfl, Nat.le_of_ble_eq_true rfl⟩) (wr_V hM hPc hDc rfl rfl rfl) rfl rfl hl.1 rfl (lv_room (Nat.le_of_ble_eq_true rfl)) d_M_enough_34 ⟨Nat.le_of_ble_eq_true rfl, Nat.le_of_ble_eq_true rfl⟩) (fun r_7 u H locs hu_8 hP hD hS => ?_)
      obtain ⟨sq9_1, so9_2, ds9_3, as9_4, bs9_5, cs9_6⟩ := u
      have hu_8 : MRz zs sc li ds9_3 as9_4 bs9_5 cs9_6 ∧ r_7 = j_sum (mlo zs sc li kp as9_4 bs9_5 cs9_6) 0 500 := hu_8
      have hP := hP.sub (ws' := [(aM, .inr (3, [.int 0, .ref mS, .ref mC, .ref mL, .ref mK, .int 1, .ref mQ, .ref mT, .ref mD, .ref mA, .ref mB, .ref mG])), (mS, .inl (cI, 3, .inl zs)), (mC, .inl (cI, 3, .inl sc)), (mL, .inl (cI, 3, .inl li)), (mQ, .inl (cL, 243, .inr (.inl sq9_1))), (mT, .inl (cL, 243, .inr (.inl so9_2))), (mD, .inl (cL, 500, .inr (.inl ds9_3))), (mA, .inl (cI, 500, .inl as9_4)), (mB, .inl (cI, 500, .inl bs9_5)), (mG, .inl (cI, 500, .inl cs9_6)), (mK, .inl (cI, 6, .inl kp))]) [0, 1, 2, 3, 4, 5, 6, 7, 8, 9, 10] rfl
      have hD := hD.sub (ws' := [(aM, .inr (3, [.int 0, .ref mS, .ref mC, .ref mL, .ref mK, .int 1, .ref mQ, .ref mT, .ref mD, .ref mA, .ref mB, .ref mG])), (mS, .inl (cI, 3, .inl zs)), (mC, .inl (cI, 3, .inl sc)), (mL, .inl (cI, 3, .inl li)), (mQ, .inl (cL, 243, .inr (.inl sq9_1))), (mT, .inl (cL, 243, .inr (.inl so9_2))), (mD, .inl (cL, 500, .inr (.inl ds9_3))), (mA, .inl (cI, 500, .inl as9_4)), (mB, .inl (cI, 500, .inl bs9_5)), (mG, .inl (cI, 500, .inl cs9_6)), (mK, .inl (cI, 6, .inl kp))]) [0, 1, 2, 3, 4, 5, 6, 7, 8, 9, 10] (by decide) rfl
      obtain ⟨hm1, er1⟩ := hu_8
      subst er1
      have hend := en_end (mr_bd hax hk hm1) h
      refine lv_iload_n hx hb d_M_enough_37 rfl (lv_at hl 1 rfl) ?_
      refine lv_i2l hx hb d_M_enough_38 rfl ?_
      refine lv_lmul hx hb d_M_enough_39 ?_
      refine lv_lstore_n (lv' := [(2, .long ((j_sum (mlo zs sc li kp as9_4 bs9_5 cs9_6) 0 500) * th.toInt64)), (0, .ref aM), (1, .int th)]) hx hb d_M_enough_40 rfl hl (by decide) rfl (fun ls hl => ?_)
      refine lv_lconst (v := 0) hx hb d_M_enough_41 (by decide) ?_
      refine lv_lstore (lv' := [(4, .long 0), (2, .long ((j_sum (mlo zs sc li kp as9_4 bs9_5 cs9_6) 0 500) * th.toInt64)), (0, .ref aM), (1, .int th)]) hx hb d_M_enough_42 hl (by decide) rfl (fun ls hl => ?_)
      refine lv_iconst (v := (-1)) hx hb d_M_enough_44 (by decide) ?_
      refine lv_istore (lv' := [(6, .int (-1)), (4, .long 0), (2, .long ((j_sum (mlo zs sc li kp as9_4 bs9_5 cs9_6) 0 500) * th.toInt64)), (0, .ref aM), (1, .int th)]) hx hb d_M_enough_45 hl (by decide) rfl (fun ls hl => ?_)
      refine lv_iload hx hb d_M_enough_47 (lv_at hl 0 rfl) ?_
      refine lv_if_lt (tgt := 63) hx hb d_M_enough_49 (by decide) (fun c_49 => ?_) (fun c_49 => ?_)
      · skip
        refine lv_iinc (v := 0) (lv' := [(6, .int 0), (4, .long 0), (2, .long ((j_sum (mlo zs sc li kp as9_4 bs9_5 cs9_6) 0 500) * th.toInt64)), (0, .ref aM), (1, .int th)]) hx hb d_M_enough_63 hl (k := 0) rfl (by decide) (by decide) rfl (fun ls hl => ?_)
        refine lv_lload hx hb d_M_enough_66 (lv_at hl 1 rfl) ?_
        refine lv_aload_n hx hb d_M_enough_68 rfl (lv_at hl 3 rfl) ?_
        refine lv_iload hx hb d_M_enough_69 (lv_at hl 0 rfl) ?_
        have hPc := hP.sub (ws' := [(aM, .inr (3, [.int 0, .ref mS, .ref mC, .ref mL, .ref mK, .int 1, .ref mQ, .ref mT, .ref mD, .ref mA, .ref mB, .ref mG])), (mS, .inl (cI, 3, .inl zs)), (mC, .inl (cI, 3, .inl sc)), (mL, .inl (cI, 3, .inl li)), (mA, .inl (cI, 500, .inl as9_4)), (mB, .inl (cI, 500, .inl bs9_5)), (mG, .inl (cI, 500, .inl cs9_6)), (mK, .inl (cI, 6, .inl kp))]) [0, 1, 2, 3, 7, 8, 9, 10] rfl
        refine rd_c (va_runV (As := [.int 0]) (rest := [.long 0]) ⟨hx, hb, hml, hown, hts⟩ (c_M_loudness l dC dI cI cL aM 0 1 mS mC mL mK mQ mT mD mA mB mG zs sc li as9_4 bs9_5 cs9_6 kp 0 (by decide) (mr_ne hax hm1 (by decide))) (cwV 1 hts (gi_V mw577 mw574 mw576 mw27 mw33) rfl rfl rfl (by decide +kernel) ⟨Nat.le_of_ble_eq_true rfl, Nat.le_of_ble_eq_true rfl⟩) (rd_V hM hPc rfl rfl rfl) rfl rfl hl.1 rfl (lv_room (Nat.le_of_ble_eq_true rfl)) d_M_enough_71 ⟨Nat.le_of_ble_eq_true rfl, Nat.le_of_ble_eq_true rfl⟩) ?_
        refine lv_ladd hx hb d_M_enough_74 ?_
        refine lv_lstore (lv' := [(4, .long (0 + (mlo zs sc li kp as9_4 bs9_5 cs9_6 0))), (6, .int 0), (2, .long ((j_sum (mlo zs sc li kp as9_4 bs9_5 cs9_6) 0 500) * th.toInt64)), (0, .ref aM), (1, .int th)]) hx hb d_M_enough_75 hl (by decide) rfl (fun ls hl => ?_)
        refine lv_goto (tgt := 47) hx hb d_M_enough_77 (by decide) ?_
        have lp : ∀ (n9 : Nat) (i : Nat) (y : Int64), 500 < i + n9 → i < 500 → y = j_sum (mlo zs sc li kp as9_4 bs9_5 cs9_6) 0 (i + 1) → (if y * 1000 < (j_sum (mlo zs sc li kp as9_4 bs9_5 cs9_6) 0 500) * th.toInt64 then j_en (mlo zs sc li kp as9_4 bs9_5 cs9_6) ((j_sum (mlo zs sc li kp as9_4 bs9_5 cs9_6) 0 500) * th.toInt64) (499 - i) (i + 1) y else nI i) = j_en (mlo zs sc li kp as9_4 bs9_5 cs9_6) ((j_sum (mlo zs sc li kp as9_4 bs9_5 cs9_6) 0 500) * th.toInt64) 500 0 0 → ∀ (H : Heap) (locs : List Loc), va_P (dC, dI) vwCl [(aM, .inr (3, [.int 0, .ref mS, .ref mC, .ref mL, .ref mK, .int 1, .ref mQ, .ref mT, .ref mD, .ref mA, .ref mB, .ref mG])), (mS, .inl (cI, 3, .inl zs)), (mC, .inl (cI, 3, .inl sc)), (mL, .inl (cI, 3, .inl li)), (mQ, .inl (cL, 243, .inr (.inl sq9_1))), (mT, .inl (cL, 243, .inr (.inl so9_2))), (mD, .inl (cL, 500, .inr (.inl ds9_3))), (mA, .inl (cI, 500, .inl as9_4)), (mB, .inl (cI, 500, .inl bs9_5)), (mG, .inl (cI, 500, .inl cs9_6)), (mK, .inl (cI, 6, .inl kp))] H → va_D A [(aM, .inr (3, [.int 0, .ref mS, .ref mC, .ref mL, .ref mK, .int 1, .ref mQ, .ref mT, .ref mD, .ref mA, .ref mB, .ref mG])), (mS, .inl (cI, 3, .inl zs)), (mC, .inl (cI, 3, .inl sc)), (mL, .inl (cI, 3, .inl li)), (mQ, .inl (cL, 243, .inr (.inl sq9_1))), (mT, .inl (cL, 243, .inr (.inl so9_2))), (mD, .inl (cL, 500, .inr (.inl ds9_3))), (mA, .inl (cI, 500, .inl as9_4)), (mB, .inl (cI, 500, .inl bs9_5)), (mG, .inl (cI, 500, .inl cs9_6)), (mK, .inl (cI, 6, .inl kp))] → va_S A s.heap H locs → ∀ (ls : Array Slot), lv_has ls 7 [(6, .int (nI i)), (4, .long y), (2, .long ((j_sum (mlo zs sc li kp as9_4 bs9_5 cs9_6) 0 500) * th.toInt64)), (0, .ref aM), (1, .int th)] → W p l e (headSpec w_M_enough ({ frames := 5, cells := 0, slots := 0, locals := 121 })).room s m ([.ref aM, .int th] : List Value).toArray below meth c H locs 0 0 (MQ below (va_Qi (fun (r9 : Int32) (u : (Nat → Int64) × (Nat → Int64) × (Nat → Int64) × (Nat → Int32) × (Nat → Int32) × (Nat → Int32)) => MRz zs sc li u.2.2.1 u.2.2.2.1 u.2.2.2.2.1 u.2.2.2.2.2 ∧ r9 = j_en (mlo zs sc li kp u.2.2.2.1 u.2.2.2.2.1 u.2.2.2.2.2) (j_sum (mlo zs sc li kp u.2.2.2.1 u.2.2.2.2.1 u.2.2.2.2.2) 0 500 * th.toInt64) 500 0 0) (fun u t => va_P (dC, dI) vwCl [(aM, .inr (3, [.int 0, .ref mS, .ref mC, .ref mL, .ref mK, .int 1, .ref mQ, .ref mT, .ref mD, .ref mA, .ref mB, .ref mG])), (mS, .inl (cI, 3, .inl zs)), (mC, .inl (cI, 3, .inl sc)), (mL, .inl (cI, 3, .inl li)), (mQ, .inl (cL, 243, .inr (.inl u.1))), (mT, .inl (cL, 243, .inr (.inl u.2.1))), (mD, .inl (cL, 500, .inr (.inl u.2.2.1))), (mA, .inl (cI, 500, .inl u.2.2.2.1)), (mB, .inl (cI, 500, .inl u.2.2.2.2.1)), (mG, .inl (cI, 500, .inl u.2.2.2.2.2)), (mK, .inl (cI, 6, .inl kp))] t.heap ∧ va_D A [(aM, .inr (3, [.int 0, .ref mS, .ref mC, .ref mL, .ref mK, .int 1, .ref mQ, .ref mT, .ref mD, .ref mA, .ref mB, .ref mG])), (mS, .inl (cI, 3, .inl zs)), (mC, .inl (cI, 3, .inl sc)), (mL, .inl (cI, 3, .inl li)), (mQ, .inl (cL, 243, .inr (.inl u.1))), (mT, .inl (cL, 243, .inr (.inl u.2.1))), (mD, .inl (cL, 500, .inr (.inl u.2.2.1))), (mA, .inl (cI, 500, .inl u.2.2.2.1)), (mB, .inl (cI, 500, .inl u.2.2.2.2.1)), (mG, .inl (cI, 500, .inl u.2.2.2.2.2)), (mK, .inl (cI, 6, .inl kp))]) A) ([.ref aM, .int th] : List Value).toArray s 0 0 A) (F0 m 47 ls []) := by
          intro n9
          induction n9 with
          | zero => intro i y hn hi hy hj H locs hP hD hS ls hl; omega
          | succ n9 ih =>
            intro i y hn hi hy hj H locs hP hD hS ls hl
            refine lv_iload hx hb d_M_enough_47 (lv_at hl 0 rfl) ?_
            refine lv_if_lt (tgt := 63) hx hb d_M_enough_49 (by decide) (fun c_49 => ?_) (fun c_49 => ?_)
            · skip
              exact absurd c_49 (nI_pos (by omega))
            · skip
              refine lv_lload hx hb d_M_enough_52 (lv_at hl 1 rfl) ?_
              refine lv_ldc2 (v := 1000) hx hb hown (ht_ hts mw485) d_M_enough_54 ?_
              refine lv_lmul hx hb d_M_enough_57 ?_
              refine lv_lload_n hx hb d_M_enough_58 rfl (lv_at hl 2 rfl) ?_
              refine W.lcmp hx hb d_M_enough_59 ?_
              refine lv_if_ge (tgt := 80) hx hb d_M_enough_60 (by decide) (fun c_60 => ?_) (fun c_60 => ?_)
              · rw [lg_cmp_ge] at c_60
                refine lv_iload hx hb d_M_enough_80 (lv_at hl 0 rfl) ?_
                have hP9 : va_P (dC, dI) vwCl [(aM, .inr (3, [.int 0, .ref mS, .ref mC, .ref mL, .ref mK, .int 1, .ref mQ, .ref mT, .ref mD, .ref mA, .ref mB, .ref mG])), (mS, .inl (cI, 3, .inl zs)), (mC, .inl (cI, 3, .inl sc)), (mL, .inl (cI, 3, .inl li)), (mQ, .inl (cL, 243, .inr (.inl sq9_1))), (mT, .inl (cL, 243, .inr (.inl so9_2))), (mD, .inl (cL, 500, .inr (.inl ds9_3))), (mA, .inl (cI, 500, .inl as9_4)), (mB, .inl (cI, 500, .inl bs9_5)), (mG, .inl (cI, 500, .inl cs9_6)), (mK, .inl (cI, 6, .inl kp))] _ := hP
                have hD9 : va_D A [(aM, .inr (3, [.int 0, .ref mS, .ref mC, .ref mL, .ref mK, .int 1, .ref mQ, .ref mT, .ref mD, .ref mA, .ref mB, .ref mG])), (mS, .inl (cI, 3, .inl zs)), (mC, .inl (cI, 3, .inl sc)), (mL, .inl (cI, 3, .inl li)), (mQ, .inl (cL, 243, .inr (.inl sq9_1))), (mT, .inl (cL, 243, .inr (.inl so9_2))), (mD, .inl (cL, 500, .inr (.inl ds9_3))), (mA, .inl (cI, 500, .inl as9_4)), (mB, .inl (cI, 500, .inl bs9_5)), (mG, .inl (cI, 500, .inl cs9_6)), (mK, .inl (cI, 6, .inl kp))] := hD
                exact W.iret (v := nI i) hx hb hr (fun t ht hW => ⟨⟨_, (sq9_1, so9_2, ds9_3, as9_4, bs9_5, cs9_6), rfl, ⟨hm1, by rw [← hj, if_neg (fun q => by rw [pu_lt] at q; rw [pu_le] at c_60; omega)]⟩, by rw [ht]; exact hP9, hD9⟩, hS.F ht⟩) hS.2.2 d_M_enough_82
              · rw [lg_cmp_ge] at c_60
                have i9 : i < 499 := en_i hend hy c_60 hi
                refine lv_iinc (v := nI (i + 1)) (lv' := [(6, .int (nI (i + 1))), (4, .long y), (2, .long ((j_sum (mlo zs sc li kp as9_4 bs9_5 cs9_6) 0 500) * th.toInt64)), (0, .ref aM), (1, .int th)]) hx hb d_M_enough_63 hl (k := 0) rfl (nI_succ _).symm (by decide) rfl (fun ls hl => ?_)
                refine lv_lload hx hb d_M_enough_66 (lv_at hl 1 rfl) ?_
                refine lv_aload_n hx hb d_M_enough_68 rfl (lv_at hl 3 rfl) ?_
                refine lv_iload hx hb d_M_enough_69 (lv_at hl 0 rfl) ?_
                have hPc := hP.sub (ws' := [(aM, .inr (3, [.int 0, .ref mS, .ref mC, .ref mL, .ref mK, .int 1, .ref mQ, .ref mT, .ref mD, .ref mA, .ref mB, .ref mG])), (mS, .inl (cI, 3, .inl zs)), (mC, .inl (cI, 3, .inl sc)), (mL, .inl (cI, 3, .inl li)), (mA, .inl (cI, 500, .inl as9_4)), (mB, .inl (cI, 500, .inl bs9_5)), (mG, .inl (cI, 500, .inl cs9_6)), (mK, .inl (cI, 6, .inl kp))]) [0, 1, 2, 3, 7, 8, 9, 10] rfl
                refine rd_c (va_runV (As := [.int (nI (i + 1))]) (rest := [.long y]) ⟨hx, hb, hml, hown, hts⟩ (c_M_loudness l dC dI cI cL aM 0 1 mS mC mL mK mQ mT mD mA mB mG zs sc li as9_4 bs9_5 cs9_6 kp (i + 1) (by omega) (mr_ne hax hm1 (by omega))) (cwV 1 hts (gi_V mw577 mw574 mw576 mw27 mw33) rfl rfl rfl (by decide +kernel) ⟨Nat.le_of_ble_eq_true rfl, Nat.le_of_ble_eq_true rfl⟩) (rd_V hM hPc rfl rfl rfl) rfl rfl hl.1 rfl (lv_room (Nat.le_of_ble_eq_true rfl)) d_M_enough_71 ⟨Nat.le_of_ble_eq_true rfl, Nat.le_of_ble_eq_true rfl⟩) ?_
                refine lv_ladd hx hb d_M_enough_74 ?_
                refine lv_lstore (lv' := [(4, .long (y + (mlo zs sc li kp as9_4 bs9_5 cs9_6 (i + 1)))), (6, .int (nI (i + 1))), (2, .long ((j_sum (mlo zs sc li kp as9_4 bs9_5 cs9_6) 0 500) * th.toInt64)), (0, .ref aM), (1, .int th)]) hx hb d_M_enough_75 hl (by decide) rfl (fun ls hl => ?_)
                refine lv_goto (tgt := 47) hx hb d_M_enough_77 (by decide) ?_
                exact ih (i + 1) _ (by omega) (by omega) (by rw [js_s _ 0 (i + 1), Nat.zero_add, hy]) (by rw [← hj, if_pos (show y * 1000 < (j_sum (mlo zs sc li kp as9_4 bs9_5 cs9_6) 0 500) * th.toInt64 by rw [pu_lt]; rw [pu_le] at c_60; omega), show 499 - i = 499 - (i + 1) + 1 by omega]; rfl) _ _ hP hD hS ls (lv_sub hl [1, 0, 2, 3, 4] rfl)
        exact lp 501 0 _ (by omega) (by omega) rfl rfl _ _ hP hD hS ls (lv_sub hl [1, 0, 2, 3, 4] rfl)
      · skip
        exact absurd (by decide) c_49
    · skip
      exact absurd (by decide) c_25

set_option maxHeartbeats 4000000 in
set_option maxRecDepth 100000 in
theorem n_M_enough (l : Launch) (dC : Nat → ClassId) (dI : Nat → Nat → Nat) (cI cL : ClassId) (aM : Nat) (th0 : Int32) (kn : Int32) (mS : Nat) (mC : Nat) (mL : Nat) (mK : Nat) (mQ : Nat) (mT : Nat) (mD : Nat) (mA : Nat) (mB : Nat) (mG : Nat) (th : Int32) (sz : Nat) (h : ¬ (wi th 0 1000)) : Met l y_M_enough w_M_enough ({ frames := 1, cells := 0, slots := 0, locals := 25 }) (wr_P (dC, dI) cI cL [(aM, .inr (3, [.int th0, .ref mS, .ref mC, .ref mL, .ref mK, .int kn, .ref mQ, .ref mT, .ref mD, .ref mA, .ref mB, .ref mG]))] sz [.ref aM, .int th]) (wr_i 0 (dC, dI) (va_A [(aM, .inr (3, [.int th0, .ref mS, .ref mC, .ref mL, .ref mK, .int kn, .ref mQ, .ref mT, .ref mD, .ref mA, .ref mB, .ref mG]))] sz) [(aM, .inr (3, [.int 1, .ref mS, .ref mC, .ref mL, .ref mK, .int kn, .ref mQ, .ref mT, .ref mD, .ref mA, .ref mB, .ref mG]))]) 0 0 (va_A [(aM, .inr (3, [.int th0, .ref mS, .ref mC, .ref mL, .ref mK, .int kn, .ref mQ, .ref mT, .ref mD, .ref mA, .ref mB, .ref mG]))] sz) := by
  refine Met.ofW (cc := b_M_enough) (maxL := 7) (ret := (some .int)) (by decide) rfl ?_
  intro p e s m args below meth c s₁ B hml hv
  obtain ⟨rfl, hsz, hP, hM, hD0⟩ := hv
  have hx := B.exec
  have hb := B.bytes
  have hr := B.returns
  have hts := atoms_spec (ws := w_M_enough) B.pre
  have hown : s.vm.findClass "RoomEchoesModel" = some m.cls := findClass_of_methodNamed B.named
  have hlocks := B.notSynchronized
  have hK := hM.1
  subst hsz
  have hD := hD0.self (sz := s.heap.size)
  generalize hAe : va_A [(aM, .inr (3, [.int th0, .ref mS, .ref mC, .ref mL, .ref mK, .int kn, .ref mQ, .ref mT, .ref mD, .ref mA, .ref mB, .ref mG]))] s.heap.size = A at hD ⊢
  have hA : ∀ q : Nat, s.heap.size ≤ q → A q := fun q h => by rw [← hAe]; exact Or.inr h
  have hS : va_S A s.heap s.heap [] := va_S.rf
  have hP : va_P (dC, dI) vwCl [(aM, .inr (3, [.int th0, .ref mS, .ref mC, .ref mL, .ref mK, .int kn, .ref mQ, .ref mT, .ref mD, .ref mA, .ref mB, .ref mG]))] s.heap := hP
  have hl := lv_entry ([.ref aM, .int th]) (n := 7) (Nat.le_of_ble_eq_true rfl)
  rw [lg_entry_eq]
  generalize (lg_sl ([.ref aM, .int th]) ++ List.replicate (7 - (lg_sl ([.ref aM, .int th])).length) Slot.unset).toArray = ls at hl ⊢
  have hl : lv_has ls 7 [(0, .ref aM), (1, .int th)] := hl
  refine lv_aload_n hx hb d_M_enough_0 rfl (lv_at hl 0 rfl) ?_
  refine lv_iload_n hx hb d_M_enough_1 rfl (lv_at hl 1 rfl) ?_
  refine lv_i2l hx hb d_M_enough_2 rfl ?_
  refine lv_lconst (v := 0) hx hb d_M_enough_3 (by decide) ?_
  refine lv_ldc2 (v := 1000) hx hb hown (ht_ hts mw485) d_M_enough_4 ?_
  refine rd_c (va_runS (As := [.long th.toInt64, .long 0, .long 1000]) (rest := [.ref aM]) ⟨hx, hb, hml, hown, hts⟩ (c_M_in l th.toInt64 0 1000) (cwS 3 hts (gi_S mw475 mw473 mw474 mw33) rfl rfl rfl (by decide +kernel) ⟨Nat.le_of_ble_eq_true rfl, Nat.le_of_ble_eq_true rfl⟩) st_S rfl rfl hl.1 rfl (lv_room (Nat.le_of_ble_eq_true rfl)) d_M_enough_7 ⟨Nat.le_of_ble_eq_true rfl, Nat.le_of_ble_eq_true rfl⟩) ?_
  refine lv_if_eq (tgt := 17) hx hb d_M_enough_10 (by decide) (fun c_10 => ?_) (fun c_10 => ?_)
  · skip
    refine lv_iconst (v := 1) hx hb d_M_enough_17 (by decide) ?_
    refine va_put (D := (dC, dI)) (ci := 3) (v := .int 1) (ty := .int) (C := "RoomEchoesModel") (T := FT_M) (N := 12) hx hb hts (hi_ in_M) ty_M tyo_M nm_M hown hK hP hD hS 0 rfl rfl 0 (by decide) (ht_ hts mw424) (fun _ h9 => h9) rfl (by decide +kernel) rfl rfl (Nat.le_of_ble_eq_true rfl) d_M_enough_18 (fun H locs hP hD hS => ?_)
    have hP : va_P (dC, dI) vwCl [(aM, .inr (3, [.int 1, .ref mS, .ref mC, .ref mL, .ref mK, .int kn, .ref mQ, .ref mT, .ref mD, .ref mA, .ref mB, .ref mG]))] H := hP
    have hD : va_D A [(aM, .inr (3, [.int 1, .ref mS, .ref mC, .ref mL, .ref mK, .int kn, .ref mQ, .ref mT, .ref mD, .ref mA, .ref mB, .ref mG]))] := hD
    refine lv_aload_n hx hb d_M_enough_21 rfl (lv_at hl 0 rfl) ?_
    refine va_get (D := (dC, dI)) (ci := 3) (v := .int 1) (C := "RoomEchoesModel") (T := FT_M) (N := 12) hx hb hts (hi_ in_M) hown hK hP 0 rfl rfl 0 (by decide) (ht_ hts mw424) (fun _ h9 => h9) rfl d_M_enough_22 ?_
    refine lv_if_le (tgt := 30) hx hb d_M_enough_25 (by decide) (fun c_25 => ?_) (fun c_25 => ?_)
    · skip
      exact absurd c_25 (by decide)
    · skip
      refine lv_iconst (v := 0) hx hb d_M_enough_28 (by decide) ?_
      have hP9 : va_P (dC, dI) vwCl [(aM, .inr (3, [.int 1, .ref mS, .ref mC, .ref mL, .ref mK, .int kn, .ref mQ, .ref mT, .ref mD, .ref mA, .ref mB, .ref mG]))] H := hP
      have hD9 : va_D A [(aM, .inr (3, [.int 1, .ref mS, .ref mC, .ref mL, .ref mK, .int kn, .ref mQ, .ref mT, .ref mD, .ref mA, .ref mB, .ref mG]))] := hD
      exact W.iret (v := 0) hx hb hr (fun t ht hW => ⟨⟨_, (), rfl, rfl, by rw [ht]; exact hP9, hD9⟩, hS.F ht⟩) hS.2.2 d_M_enough_29
  · skip
    exact absurd (in_n (lo := 0) (hi := 1000) (by decide) (by decide) c_10) h

set_option maxHeartbeats 4000000 in
set_option maxRecDepth 100000 in
theorem c_M_loudest (l : Launch) (dC : Nat → ClassId) (dI : Nat → Nat → Nat) (cI cL : ClassId) (aM : Nat) (th0 : Int32) (kn : Int32) (mS : Nat) (mC : Nat) (mL : Nat) (mK : Nat) (mQ : Nat) (mT : Nat) (mD : Nat) (mA : Nat) (mB : Nat) (mG : Nat) (zs : Nat → Int32) (sc : Nat → Int32) (li : Nat → Int32) (sq : Nat → Int64) (so : Nat → Int64) (ds : Nat → Int64) (as : Nat → Int32) (bs : Nat → Int32) (cs : Nat → Int32) (kp : Nat → Int32) (k : Int32) (sz : Nat) (hax : ax3k zs sc li) (hR : kn = 0 ∨ (kn = 1 ∧ MRz zs sc li ds as bs cs)) (hk : kpok kp) (h : wi k (-1) 499) : Met l y_M_loudest w_M_loudest ({ frames := 4, cells := 0, slots := 0, locals := 97 }) (wr_P (dC, dI) cI cL [(aM, .inr (3, [.int th0, .ref mS, .ref mC, .ref mL, .ref mK, .int kn, .ref mQ, .ref mT, .ref mD, .ref mA, .ref mB, .ref mG])), (mS, .inl (cI, 3, .inl zs)), (mC, .inl (cI, 3, .inl sc)), (mL, .inl (cI, 3, .inl li)), (mQ, .inl (cL, 243, .inr (.inl sq))), (mT, .inl (cL, 243, .inr (.inl so))), (mD, .inl (cL, 500, .inr (.inl ds))), (mA, .inl (cI, 500, .inl as)), (mB, .inl (cI, 500, .inl bs)), (mG, .inl (cI, 500, .inl cs)), (mK, .inl (cI, 6, .inl kp))] sz [.ref aM, .int k]) (va_Qi (fun (r9 : Int32) (u : (Nat → Int64) × (Nat → Int64) × (Nat → Int64) × (Nat → Int32) × (Nat → Int32) × (Nat → Int32)) => MRz zs sc li u.2.2.1 u.2.2.2.1 u.2.2.2.2.1 u.2.2.2.2.2 ∧ r9 = j_lo (mlo zs sc li kp u.2.2.2.1 u.2.2.2.2.1 u.2.2.2.2.2) (500 - (k + 1).toNatClampNeg) (k + 1).toNatClampNeg (-1) (-1)) (fun u t => va_P (dC, dI) vwCl [(aM, .inr (3, [.int 0, .ref mS, .ref mC, .ref mL, .ref mK, .int 1, .ref mQ, .ref mT, .ref mD, .ref mA, .ref mB, .ref mG])), (mS, .inl (cI, 3, .inl zs)), (mC, .inl (cI, 3, .inl sc)), (mL, .inl (cI, 3, .inl li)), (mQ, .inl (cL, 243, .inr (.inl u.1))), (mT, .inl (cL, 243, .inr (.inl u.2.1))), (mD, .inl (cL, 500, .inr (.inl u.2.2.1))), (mA, .inl (cI, 500, .inl u.2.2.2.1)), (mB, .inl (cI, 500, .inl u.2.2.2.2.1)), (mG, .inl (cI, 500, .inl u.2.2.2.2.2)), (mK, .inl (cI, 6, .inl kp))] t.heap ∧ va_D (va_A [(aM, .inr (3, [.int th0, .ref mS, .ref mC, .ref mL, .ref mK, .int kn, .ref mQ, .ref mT, .ref mD, .ref mA, .ref mB, .ref mG])), (mS, .inl (cI, 3, .inl zs)), (mC, .inl (cI, 3, .inl sc)), (mL, .inl (cI, 3, .inl li)), (mQ, .inl (cL, 243, .inr (.inl sq))), (mT, .inl (cL, 243, .inr (.inl so))), (mD, .inl (cL, 500, .inr (.inl ds))), (mA, .inl (cI, 500, .inl as)), (mB, .inl (cI, 500, .inl bs)), (mG, .inl (cI, 500, .inl cs)), (mK, .inl (cI, 6, .inl kp))] sz) [(aM, .inr (3, [.int 0, .ref mS, .ref mC, .ref mL, .ref mK, .int 1, .ref mQ, .ref mT, .ref mD, .ref mA, .ref mB, .ref mG])), (mS, .inl (cI, 3, .inl zs)), (mC, .inl (cI, 3, .inl sc)), (mL, .inl (cI, 3, .inl li)), (mQ, .inl (cL, 243, .inr (.inl u.1))), (mT, .inl (cL, 243, .inr (.inl u.2.1))), (mD, .inl (cL, 500, .inr (.inl u.2.2.1))), (mA, .inl (cI, 500, .inl u.2.2.2.1)), (mB, .inl (cI, 500, .inl u.2.2.2.2.1)), (mG, .inl (cI, 500, .inl u.2.2.2.2.2)), (mK, .inl (cI, 6, .inl kp))]) (va_A [(aM, .inr (3, [.int th0, .ref mS, .ref mC, .ref mL, .ref mK, .int kn, .ref mQ, .ref mT, .ref mD, .ref mA, .ref mB, .ref mG])), (mS, .inl (cI, 3, .inl zs)), (mC, .inl (cI, 3, .inl sc)), (mL, .inl (cI, 3, .inl li)), (mQ, .inl (cL, 243, .inr (.inl sq))), (mT, .inl (cL, 243, .inr (.inl so))), (mD, .inl (cL, 500, .inr (.inl ds))), (mA, .inl (cI, 500, .inl as)), (mB, .inl (cI, 500, .inl bs)), (mG, .inl (cI, 500, .inl cs)), (mK, .inl (cI, 6, .inl kp))] sz)) 0 0 (va_A [(aM, .inr (3, [.int th0, .ref mS, .ref mC, .ref mL, .ref mK, .int kn, .ref mQ, .ref mT, .ref mD, .ref mA, .ref mB, .ref mG])), (mS, .inl (cI, 3, .inl zs)), (mC, .inl (cI, 3, .inl sc)), (mL, .inl (cI, 3, .inl li)), (mQ, .inl (cL, 243, .inr (.inl sq))), (mT, .inl (cL, 243, .inr (.inl so))), (mD, .inl (cL, 500, .inr (.inl ds))), (mA, .inl (cI, 500, .inl as)), (mB, .inl (cI, 500, .inl bs)), (mG, .inl (cI, 500, .inl cs)), (mK, .inl (cI, 6, .inl kp))] sz) := by
  refine Met.ofW (cc := b_M_loudest) (maxL := 4) (ret := (some .int)) (by decide) rfl ?_
  intro p e s m args below meth c s₁ B hml hv
  obtain ⟨rfl, hsz, hP, hM, hD0⟩ := hv
  have hx := B.exec
  have hb := B.bytes
  have hr := B.returns
  have hts := atoms_spec (ws := w_M_loudest) B.pre
  have hown : s.vm.findClass "RoomEchoesModel" = some m.cls := findClass_of_methodNamed B.named
  have hlocks := B.notSynchronized
  have hK := hM.1
  subst hsz
  have hD := hD0.self (sz := s.heap.size)
  generalize hAe : va_A [(aM, .inr (3, [.int th0, .ref mS, .ref mC, .ref mL, .ref mK, .int kn, .ref mQ, .ref mT, .ref mD, .ref mA, .ref mB, .ref mG])), (mS, .inl (cI, 3, .inl zs)), (mC, .inl (cI, 3, .inl sc)), (mL, .inl (cI, 3, .inl li)), (mQ, .inl (cL, 243, .inr (.inl sq))), (mT, .inl (cL, 243, .inr (.inl so))), (mD, .inl (cL, 500, .inr (.inl ds))), (mA, .inl (cI, 500, .inl as)), (mB, .inl (cI, 500, .inl bs)), (mG, .inl (cI, 500, .inl cs)), (mK, .inl (cI, 6, .inl kp))] s.heap.size = A at hD ⊢
  have hA : ∀ q : Nat, s.heap.size ≤ q → A q := fun q h => by rw [← hAe]; exact Or.inr h
  have hS : va_S A s.heap s.heap [] := va_S.rf
  have hP : va_P (dC, dI) vwCl [(aM, .inr (3, [.int th0, .ref mS, .ref mC, .ref mL, .ref mK, .int kn, .ref mQ, .ref mT, .ref mD, .ref mA, .ref mB, .ref mG])), (mS, .inl (cI, 3, .inl zs)), (mC, .inl (cI, 3, .inl sc)), (mL, .inl (cI, 3, .inl li)), (mQ, .inl (cL, 243, .inr (.inl sq))), (mT, .inl (cL, 243, .inr (.inl so))), (mD, .inl (cL, 500, .inr (.inl ds))), (mA, .inl (cI, 500, .inl as)), (mB, .inl (cI, 500, .inl bs)), (mG, .inl (cI, 500, .inl cs)), (mK, .inl (cI, 6, .inl kp))] s.heap := hP
  have hl := lv_entry ([.ref aM, .int k]) (n := 4) (Nat.le_of_ble_eq_true rfl)
  rw [lg_entry_eq]
  generalize (lg_sl ([.ref aM, .int k]) ++ List.replicate (4 - (lg_sl ([.ref aM, .int k])).length) Slot.unset).toArray = ls at hl ⊢
  have hl : lv_has ls 4 [(0, .ref aM), (1, .int k)] := hl
  refine lv_aload_n hx hb d_M_loudest_0 rfl (lv_at hl 0 rfl) ?_
  refine lv_iload_n hx hb d_M_loudest_1 rfl (lv_at hl 1 rfl) ?_
  refine lv_i2l hx hb d_M_loudest_2 rfl ?_
  refine lv_ldc2 (v := (-1)) hx hb hown (ht_ hts mw593) d_M_loudest_3 ?_
  refine lv_ldc2 (v := 499) hx hb hown (ht_ hts mw530) d_M_loudest_6 ?_
  refine rd_c (va_runS (As := [.long k.toInt64, .long (-1), .long 499]) (rest := [.ref aM]) ⟨hx, hb, hml, hown, hts⟩ (c_M_in l k.toInt64 (-1) 499) (cwS 3 hts (gi_S mw475 mw473 mw474 mw33) rfl rfl rfl (by decide +kernel) ⟨Nat.le_of_ble_eq_true rfl, Nat.le_of_ble_eq_true rfl⟩) st_S rfl rfl hl.1 rfl (lv_room (Nat.le_of_ble_eq_true rfl)) d_M_loudest_9 ⟨Nat.le_of_ble_eq_true rfl, Nat.le_of_ble_eq_true rfl⟩) ?_
  refine tp_i 1 (in_yes (lo := -1) (hi := 499) (by decide) (by decide) h) ?_
  refine lv_if_eq (tgt := 19) hx hb d_M_loudest_12 (by decide) (fun c_12 => ?_) (fun c_12 => ?_)
  · skip
    exact absurd c_12 (by decide)
  · skip
    refine lv_iconst (v := 0) hx hb d_M_loudest_15 (by decide) ?_
    refine lv_goto (tgt := 20) hx hb d_M_loudest_16 (by decide) ?_
    refine va_put (D := (dC, dI)) (ci := 3) (v := .int 0) (ty := .int) (C := "RoomEchoesModel") (T := FT_M) (N := 12) hx hb hts (hi_ in_M) ty_M tyo_M nm_M hown hK hP hD hS 0 rfl rfl 0 (by decide) (ht_ hts mw424) (fun _ h9 => h9) rfl (by decide +kernel) rfl rfl (Nat.le_of_ble_eq_true rfl) d_M_loudest_20 (fun H locs hP hD hS => ?_)
    have hP : va_P (dC, dI) vwCl [(aM, .inr (3, [.int 0, .ref mS, .ref mC, .ref mL, .ref mK, .int kn, .ref mQ, .ref mT, .ref mD, .ref mA, .ref mB, .ref mG])), (mS, .inl (cI, 3, .inl zs)), (mC, .inl (cI, 3, .inl sc)), (mL, .inl (cI, 3, .inl li)), (mQ, .inl (cL, 243, .inr (.inl sq))), (mT, .inl (cL, 243, .inr (.inl so))), (mD, .inl (cL, 500, .inr (.inl ds))), (mA, .inl (cI, 500, .inl as)), (mB, .inl (cI, 500, .inl bs)), (mG, .inl (cI, 500, .inl cs)), (mK, .inl (cI, 6, .inl kp))] H := hP
    have hD : va_D A [(aM, .inr (3, [.int 0, .ref mS, .ref mC, .ref mL, .ref mK, .int kn, .ref mQ, .ref mT, .ref mD, .ref mA, .ref mB, .ref mG])), (mS, .inl (cI, 3, .inl zs)), (mC, .inl (cI, 3, .inl sc)), (mL, .inl (cI, 3, .inl li)), (mQ, .inl (cL, 243, .inr (.inl sq))), (mT, .inl (cL, 243, .inr (.inl so))), (mD, .inl (cL, 500, .inr (.inl ds))), (mA, .inl (cI, 500, .inl as)), (mB, .inl (cI, 500, .inl bs)), (mG, .inl (cI, 500, .inl cs)), (mK, .inl (cI, 6, .inl kp))] := hD
    refine lv_aload_n hx hb d_M_loudest_23 rfl (lv_at hl 0 rfl) ?_
    refine va_get (D := (dC, dI)) (ci := 3) (v := .int 0) (C := "RoomEchoesModel") (T := FT_M) (N := 12) hx hb hts (hi_ in_M) hown hK hP 0 rfl rfl 0 (by decide) (ht_ hts mw424) (fun _ h9 => h9) rfl d_M_loudest_24 ?_
    refine lv_if_le (tgt := 32) hx hb d_M_loudest_27 (by decide) (fun c_27 => ?_) (fun c_27 => ?_)
    · skip
      refine lv_aload_n hx hb d_M_loudest_32 rfl (lv_at hl 0 rfl) ?_
      have hPc := hP.sub (ws' := [(aM, .inr (3, [.int 0, .ref mS, .ref mC, .ref mL, .ref mK, .int kn, .ref mQ, .ref mT, .ref mD, .ref mA, .ref mB, .ref mG])), (mS, .inl (cI, 3, .inl zs)), (mC, .inl (cI, 3, .inl sc)), (mL, .inl (cI, 3, .inl li)), (mQ, .inl (cL, 243, .inr (.inl sq))), (mT, .inl (cL, 243, .inr (.inl so))), (mD, .inl (cL, 500, .inr (.inl ds))), (mA, .inl (cI, 500, .inl as)), (mB, .inl (cI, 500, .inl bs)), (mG, .inl (cI, 500, .inl cs))]) [0, 1, 2, 3, 4, 5, 6, 7, 8, 9] rfl
      have hDc := hD.sub (ws' := [(aM, .inr (3, [.int 0, .ref mS, .ref mC, .ref mL, .ref mK, .int kn, .ref mQ, .ref mT, .ref mD, .ref mA, .ref mB, .ref mG])), (mS, .inl (cI, 3, .inl zs)), (mC, .inl (cI, 3, .inl sc)), (mL, .inl (cI, 3, .inl li)), (mQ, .inl (cL, 243, .inr (.inl sq))), (mT, .inl (cL, 243, .inr (.inl so))), (mD, .inl (cL, 500, .inr (.inl ds))), (mA, .inl (cI, 500, .inl as)), (mB, .inl (cI, 500, .inl bs)), (mG, .inl (cI, 500, .inl cs))]) [0, 1, 2, 3, 4, 5, 6, 7, 8, 9] (by decide) rfl
      refine wx_cv (wr := [(mK, .inl (cI, 6, .inl kp))]) (w1 := fun (u : (Nat → Int64) × (Nat → Int64) × (Nat → Int64) × (Nat → Int32) × (Nat → Int32) × (Nat → Int32)) => [(aM, .inr (3, [.int 0, .ref mS, .ref mC, .ref mL, .ref mK, .int 1, .ref mQ, .ref mT, .ref mD, .ref mA, .ref mB, .ref mG])), (mS, .inl (cI, 3, .inl zs)), (mC, .inl (cI, 3, .inl sc)), (mL, .inl (cI, 3, .inl li)), (mQ, .inl (cL, 243, .inr (.inl u.1))), (mT, .inl (cL, 243, .inr (.inl u.2.1))), (mD, .inl (cL, 500, .inr (.inl u.2.2.1))), (mA, .inl (cI, 500, .inl u.2.2.2.1)), (mB, .inl (cI, 500, .inl u.2.2.2.2.1)), (mG, .inl (cI, 500, .inl u.2.2.2.2.2))]) hP hD hS hA [0, 1, 2, 3, 4, 5, 6, 7, 8, 9] [10] rfl rfl (by decide) (by decide) (va_runV (As := []) (rest := []) ⟨hx, hb, hml, hown, hts⟩ (c_M_make l dC dI cI cL aM 0 kn mS mC mL mK mQ mT mD mA mB mG zs sc li sq so ds as bs cs _ hax hR) (cwV 0 hts (gi_V mw535 mw532 mw534 mw20 mw33) rfl rfl rfl (by decide +kernel) ⟨Nat.le_of_ble_eq_true rfl, Nat.le_of_ble_eq_true rfl⟩) (wr_V hM hPc hDc rfl rfl rfl) rfl rfl hl.1 rfl (lv_room (Nat.le_of_ble_eq_true rfl)) d_M_loudest_33 ⟨Nat.le_of_ble_eq_true rfl, Nat.le_of_ble_eq_true rfl⟩) (fun u H locs hu_7 hP hD hS => ?_)
      obtain ⟨sq9_1, so9_2, ds9_3, as9_4, bs9_5, cs9_6⟩ := u
      have hu_7 : MRz zs sc li ds9_3 as9_4 bs9_5 cs9_6 ∧ (kn = 1 → ds9_3 = ds ∧ as9_4 = as ∧ bs9_5 = bs ∧ cs9_6 = cs) := hu_7
      have hP := hP.sub (ws' := [(aM, .inr (3, [.int 0, .ref mS, .ref mC, .ref mL, .ref mK, .int 1, .ref mQ, .ref mT, .ref mD, .ref mA, .ref mB, .ref mG])), (mS, .inl (cI, 3, .inl zs)), (mC, .inl (cI, 3, .inl sc)), (mL, .inl (cI, 3, .inl li)), (mQ, .inl (cL, 243, .inr (.inl sq9_1))), (mT, .inl (cL, 243, .inr (.inl so9_2))), (mD, .inl (cL, 500, .inr (.inl ds9_3))), (mA, .inl (cI, 500, .inl as9_4)), (mB, .inl (cI, 500, .inl bs9_5)), (mG, .inl (cI, 500, .inl cs9_6)), (mK, .inl (cI, 6, .inl kp))]) [1, 2, 3, 4, 5, 6, 7, 8, 9, 10, 0] rfl
      have hD := hD.sub (ws' := [(aM, .inr (3, [.int 0, .ref mS, .ref mC, .ref mL, .ref mK, .int 1, .ref mQ, .ref mT, .ref mD, .ref mA, .ref mB, .ref mG])), (mS, .inl (cI, 3, .inl zs)), (mC, .inl (cI, 3, .inl sc)), (mL, .inl (cI, 3, .inl li)), (mQ, .inl (cL, 243, .inr (.inl sq9_1))), (mT, .inl (cL, 243, .inr (.inl so9_2))), (mD, .inl (cL, 500, .inr (.inl ds9_3))), (mA, .inl (cI, 500, .inl as9_4)), (mB, .inl (cI, 500, .inl bs9_5)), (mG, .inl (cI, 500, .inl cs9_6)), (mK, .inl (cI, 6, .inl kp))]) [1, 2, 3, 4, 5, 6, 7, 8, 9, 10, 0] (by decide) rfl
      refine lv_iconst (v := (-1)) hx hb d_M_loudest_36 (by decide) ?_
      refine lv_istore_n (lv' := [(2, .int (-1)), (0, .ref aM), (1, .int k)]) hx hb d_M_loudest_37 rfl hl (by decide) rfl (fun ls hl => ?_)
      refine lv_iload_n hx hb d_M_loudest_38 rfl (lv_at hl 2 rfl) ?_
      refine lv_iconst (v := 1) hx hb d_M_loudest_39 (by decide) ?_
      refine lv_iadd hx hb d_M_loudest_40 ?_
      refine tp_i (nI (k + 1).toNatClampNeg) (wi_st h).1 ?_
      refine lv_istore_n (lv' := [(3, .int (nI (k + 1).toNatClampNeg)), (2, .int (-1)), (0, .ref aM), (1, .int k)]) hx hb d_M_loudest_41 rfl hl (by decide) rfl (fun ls hl => ?_)
      have hbd := mr_bd hax hk hu_7.1
      have s5 := wi_st h
      have lp : ∀ (n9 : Nat) (i : Nat) (b : Int32) (y : Int64), 500 < i + n9 → i ≤ 500 → (b = -1 ∧ y = -1) ∨ (∃ j, j < 500 ∧ b = nI j ∧ y = (mlo zs sc li kp as9_4 bs9_5 cs9_6) j) → j_lo (mlo zs sc li kp as9_4 bs9_5 cs9_6) (500 - i) i b y = j_lo (mlo zs sc li kp as9_4 bs9_5 cs9_6) (500 - (k + 1).toNatClampNeg) (k + 1).toNatClampNeg (-1) (-1) → ∀ (H : Heap) (locs : List Loc), va_P (dC, dI) vwCl [(aM, .inr (3, [.int 0, .ref mS, .ref mC, .ref mL, .ref mK, .int 1, .ref mQ, .ref mT, .ref mD, .ref mA, .ref mB, .ref mG])), (mS, .inl (cI, 3, .inl zs)), (mC, .inl (cI, 3, .inl sc)), (mL, .inl (cI, 3, .inl li)), (mQ, .inl (cL, 243, .inr (.inl sq9_1))), (mT, .inl (cL, 243, .inr (.inl so9_2))), (mD, .inl (cL, 500, .inr (.inl ds9_3))), (mA, .inl (cI, 500, .inl as9_4)), (mB, .inl (cI, 500, .inl bs9_5)), (mG, .inl (cI, 500, .inl cs9_6)), (mK, .inl (cI, 6, .inl kp))] H → va_D A [(aM, .inr (3, [.int 0, .ref mS, .ref mC, .ref mL, .ref mK, .int 1, .ref mQ, .ref mT, .ref mD, .ref mA, .ref mB, .ref mG])), (mS, .inl (cI, 3, .inl zs)), (mC, .inl (cI, 3, .inl sc)), (mL, .inl (cI, 3, .inl li)), (mQ, .inl (cL, 243, .inr (.inl sq9_1))), (mT, .inl (cL, 243, .inr (.inl so9_2))), (mD, .inl (cL, 500, .inr (.inl ds9_3))), (mA, .inl (cI, 500, .inl as9_4)), (mB, .inl (cI, 500, .inl bs9_5)), (mG, .inl (cI, 500, .inl cs9_6)), (mK, .inl (cI, 6, .inl kp))] → va_S A s.heap H locs → ∀ (ls : Array Slot), lv_has ls 4 [(3, .int (nI i)), (2, .int b), (0, .ref aM), (1, .int k)] → W p l e (headSpec w_M_loudest ({ frames := 4, cells := 0, slots := 0, locals := 97 })).room s m ([.ref aM, .int k] : List Value).toArray below meth c H locs 0 0 (MQ below (va_Qi (fun (r9 : Int32) (u : (Nat → Int64) × (Nat → Int64) × (Nat → Int64) × (Nat → Int32) × (Nat → Int32) × (Nat → Int32)) => MRz zs sc li u.2.2.1 u.2.2.2.1 u.2.2.2.2.1 u.2.2.2.2.2 ∧ r9 = j_lo (mlo zs sc li kp u.2.2.2.1 u.2.2.2.2.1 u.2.2.2.2.2) (500 - (k + 1).toNatClampNeg) (k + 1).toNatClampNeg (-1) (-1)) (fun u t => va_P (dC, dI) vwCl [(aM, .inr (3, [.int 0, .ref mS, .ref mC, .ref mL, .ref mK, .int 1, .ref mQ, .ref mT, .ref mD, .ref mA, .ref mB, .ref mG])), (mS, .inl (cI, 3, .inl zs)), (mC, .inl (cI, 3, .inl sc)), (mL, .inl (cI, 3, .inl li)), (mQ, .inl (cL, 243, .inr (.inl u.1))), (mT, .inl (cL, 243, .inr (.inl u.2.1))), (mD, .inl (cL, 500, .inr (.inl u.2.2.1))), (mA, .inl (cI, 500, .inl u.2.2.2.1)), (mB, .inl (cI, 500, .inl u.2.2.2.2.1)), (mG, .inl (cI, 500, .inl u.2.2.2.2.2)), (mK, .inl (cI, 6, .inl kp))] t.heap ∧ va_D A [(aM, .inr (3, [.int 0, .ref mS, .ref mC, .ref mL, .ref mK, .int 1, .ref mQ, .ref mT, .ref mD, .ref mA, .ref mB, .ref mG])), (mS, .inl (cI, 3, .inl zs)), (mC, .inl (cI, 3, .inl sc)), (mL, .inl (cI, 3, .inl li)), (mQ, .inl (cL, 243, .inr (.inl u.1))), (mT, .inl (cL, 243, .inr (.inl u.2.1))), (mD, .inl (cL, 500, .inr (.inl u.2.2.1))), (mA, .inl (cI, 500, .inl u.2.2.2.1)), (mB, .inl (cI, 500, .inl u.2.2.2.2.1)), (mG, .inl (cI, 500, .inl u.2.2.2.2.2)), (mK, .inl (cI, 6, .inl kp))]) A) ([.ref aM, .int k] : List Value).toArray s 0 0 A) (F0 m 42 ls []) := by
        intro n9
        induction n9 with
        | zero => intro i b y hn hi hb9 hj H locs hP hD hS ls hl; omega
        | succ n9 ih =>
          intro i b y hn hi hb9 hj H locs hP hD hS ls hl
          refine lv_iload_n hx hb d_M_loudest_42 rfl (lv_at hl 0 rfl) ?_
          refine lv_sipush (v := 500) hx hb d_M_loudest_43 (by decide) ?_
          refine lv_icmp_ge (tgt := 79) hx hb d_M_loudest_46 (by decide) (fun c_46 => ?_) (fun c_46 => ?_)
          · skip
            refine lv_iload_n hx hb d_M_loudest_79 rfl (lv_at hl 1 rfl) ?_
            have hP9 : va_P (dC, dI) vwCl [(aM, .inr (3, [.int 0, .ref mS, .ref mC, .ref mL, .ref mK, .int 1, .ref mQ, .ref mT, .ref mD, .ref mA, .ref mB, .ref mG])), (mS, .inl (cI, 3, .inl zs)), (mC, .inl (cI, 3, .inl sc)), (mL, .inl (cI, 3, .inl li)), (mQ, .inl (cL, 243, .inr (.inl sq9_1))), (mT, .inl (cL, 243, .inr (.inl so9_2))), (mD, .inl (cL, 500, .inr (.inl ds9_3))), (mA, .inl (cI, 500, .inl as9_4)), (mB, .inl (cI, 500, .inl bs9_5)), (mG, .inl (cI, 500, .inl cs9_6)), (mK, .inl (cI, 6, .inl kp))] _ := hP
            have hD9 : va_D A [(aM, .inr (3, [.int 0, .ref mS, .ref mC, .ref mL, .ref mK, .int 1, .ref mQ, .ref mT, .ref mD, .ref mA, .ref mB, .ref mG])), (mS, .inl (cI, 3, .inl zs)), (mC, .inl (cI, 3, .inl sc)), (mL, .inl (cI, 3, .inl li)), (mQ, .inl (cL, 243, .inr (.inl sq9_1))), (mT, .inl (cL, 243, .inr (.inl so9_2))), (mD, .inl (cL, 500, .inr (.inl ds9_3))), (mA, .inl (cI, 500, .inl as9_4)), (mB, .inl (cI, 500, .inl bs9_5)), (mG, .inl (cI, 500, .inl cs9_6)), (mK, .inl (cI, 6, .inl kp))] := hD
            exact W.iret (v := b) hx hb hr (fun t ht hW => ⟨⟨_, (sq9_1, so9_2, ds9_3, as9_4, bs9_5, cs9_6), rfl, ⟨hu_7.1, by rw [← hj, show 500 - i = 0 by have : 500 ≤ i := nu_end (x := 500) (by omega) c_46; omega]; rfl⟩, by rw [ht]; exact hP9, hD9⟩, hS.F ht⟩) hS.2.2 d_M_loudest_80
          · skip
            have i5 : i < 500 := nu_on (x := 500) (by omega) c_46
            refine lv_iload_n hx hb d_M_loudest_49 rfl (lv_at hl 1 rfl) ?_
            refine lv_if_lt (tgt := 67) hx hb d_M_loudest_50 (by decide) (fun c_50 => ?_) (fun c_50 => ?_)
            · skip
              refine lv_iload_n hx hb d_M_loudest_67 rfl (lv_at hl 0 rfl) ?_
              refine lv_goto (tgt := 72) hx hb d_M_loudest_68 (by decide) ?_
              refine lv_istore_n (lv' := [(2, .int (nI i)), (3, .int (nI i)), (0, .ref aM), (1, .int k)]) hx hb d_M_loudest_72 rfl hl (by decide) rfl (fun ls hl => ?_)
              refine lv_iinc (v := nI (i + 1)) (lv' := [(3, .int (nI (i + 1))), (2, .int (nI i)), (0, .ref aM), (1, .int k)]) hx hb d_M_loudest_73 hl (k := 1) rfl (nI_succ _).symm (by decide) rfl (fun ls hl => ?_)
              refine lv_goto (tgt := 42) hx hb d_M_loudest_76 (by decide) ?_
              exact ih (i + 1) (nI i) ((mlo zs sc li kp as9_4 bs9_5 cs9_6) i) (by omega) (by omega) (Or.inr ⟨i, i5, rfl, rfl⟩) (by rw [← hj, show 500 - i = 500 - (i + 1) + 1 by omega]; exact (if_neg (fun q => by have z := hb9.elim (fun q => q.2) (fun ⟨j, j5, e1, _⟩ => absurd c_50 (by rw [e1]; exact nI_pos (by omega))); rw [z, pu_le] at q; have := (hbd i i5).1; have m1 : (-1 : Int64).toInt = -1 := rfl; omega)).symm) _ _ hP hD hS ls (lv_sub hl [0, 1, 2, 3] rfl)
            · skip
              obtain ⟨j, j5, rfl, ey⟩ : ∃ j, j < 500 ∧ b = nI j ∧ y = (mlo zs sc li kp as9_4 bs9_5 cs9_6) j := hb9.resolve_left (fun q => c_50 (by rw [q.1]; decide))
              refine lv_aload_n hx hb d_M_loudest_53 rfl (lv_at hl 2 rfl) ?_
              refine lv_iload_n hx hb d_M_loudest_54 rfl (lv_at hl 0 rfl) ?_
              have hPc := hP.sub (ws' := [(aM, .inr (3, [.int 0, .ref mS, .ref mC, .ref mL, .ref mK, .int 1, .ref mQ, .ref mT, .ref mD, .ref mA, .ref mB, .ref mG])), (mS, .inl (cI, 3, .inl zs)), (mC, .inl (cI, 3, .inl sc)), (mL, .inl (cI, 3, .inl li)), (mA, .inl (cI, 500, .inl as9_4)), (mB, .inl (cI, 500, .inl bs9_5)), (mG, .inl (cI, 500, .inl cs9_6)), (mK, .inl (cI, 6, .inl kp))]) [0, 1, 2, 3, 7, 8, 9, 10] rfl
              refine rd_c (va_runV (As := [.int (nI i)]) (rest := []) ⟨hx, hb, hml, hown, hts⟩ (c_M_loudness l dC dI cI cL aM 0 1 mS mC mL mK mQ mT mD mA mB mG zs sc li as9_4 bs9_5 cs9_6 kp i i5 (mr_ne hax hu_7.1 i5)) (cwV 1 hts (gi_V mw577 mw574 mw576 mw27 mw33) rfl rfl rfl (by decide +kernel) ⟨Nat.le_of_ble_eq_true rfl, Nat.le_of_ble_eq_true rfl⟩) (rd_V hM hPc rfl rfl rfl) rfl rfl hl.1 rfl (lv_room (Nat.le_of_ble_eq_true rfl)) d_M_loudest_55 ⟨Nat.le_of_ble_eq_true rfl, Nat.le_of_ble_eq_true rfl⟩) ?_
              refine lv_aload_n hx hb d_M_loudest_58 rfl (lv_at hl 2 rfl) ?_
              refine lv_iload_n hx hb d_M_loudest_59 rfl (lv_at hl 1 rfl) ?_
              have hPc := hP.sub (ws' := [(aM, .inr (3, [.int 0, .ref mS, .ref mC, .ref mL, .ref mK, .int 1, .ref mQ, .ref mT, .ref mD, .ref mA, .ref mB, .ref mG])), (mS, .inl (cI, 3, .inl zs)), (mC, .inl (cI, 3, .inl sc)), (mL, .inl (cI, 3, .inl li)), (mA, .inl (cI, 500, .inl as9_4)), (mB, .inl (cI, 500, .inl bs9_5)), (mG, .inl (cI, 500, .inl cs9_6)), (mK, .inl (cI, 6, .inl kp))]) [0, 1, 2, 3, 7, 8, 9, 10] rfl
              refine rd_c (va_runV (As := [.int (nI j)]) (rest := [.long (mlo zs sc li kp as9_4 bs9_5 cs9_6 i)]) ⟨hx, hb, hml, hown, hts⟩ (c_M_loudness l dC dI cI cL aM 0 1 mS mC mL mK mQ mT mD mA mB mG zs sc li as9_4 bs9_5 cs9_6 kp j j5 (mr_ne hax hu_7.1 j5)) (cwV 1 hts (gi_V mw577 mw574 mw576 mw27 mw33) rfl rfl rfl (by decide +kernel) ⟨Nat.le_of_ble_eq_true rfl, Nat.le_of_ble_eq_true rfl⟩) (rd_V hM hPc rfl rfl rfl) rfl rfl hl.1 rfl (lv_room (Nat.le_of_ble_eq_true rfl)) d_M_loudest_60 ⟨Nat.le_of_ble_eq_true rfl, Nat.le_of_ble_eq_true rfl⟩) ?_
              refine W.lcmp hx hb d_M_loudest_63 ?_
              refine lv_if_le (tgt := 71) hx hb d_M_loudest_64 (by decide) (fun c_64 => ?_) (fun c_64 => ?_)
              · rw [lg_cmp_le] at c_64
                refine lv_iload_n hx hb d_M_loudest_71 rfl (lv_at hl 1 rfl) ?_
                refine lv_istore_n (lv' := [(2, .int (nI j)), (3, .int (nI i)), (0, .ref aM), (1, .int k)]) hx hb d_M_loudest_72 rfl hl (by decide) rfl (fun ls hl => ?_)
                refine lv_iinc (v := nI (i + 1)) (lv' := [(3, .int (nI (i + 1))), (2, .int (nI j)), (0, .ref aM), (1, .int k)]) hx hb d_M_loudest_73 hl (k := 1) rfl (nI_succ _).symm (by decide) rfl (fun ls hl => ?_)
                refine lv_goto (tgt := 42) hx hb d_M_loudest_76 (by decide) ?_
                exact ih (i + 1) (nI j) y (by omega) (by omega) (Or.inr ⟨j, j5, rfl, ey⟩) (by rw [← hj, show 500 - i = 500 - (i + 1) + 1 by omega]; exact (if_pos (by rw [ey]; exact c_64)).symm) _ _ hP hD hS ls (lv_sub hl [0, 1, 2, 3] rfl)
              · rw [lg_cmp_le] at c_64
                refine lv_iload_n hx hb d_M_loudest_67 rfl (lv_at hl 0 rfl) ?_
                refine lv_goto (tgt := 72) hx hb d_M_loudest_68 (by decide) ?_
                refine lv_istore_n (lv' := [(2, .int (nI i)), (3, .int (nI i)), (0, .ref aM), (1, .int k)]) hx hb d_M_loudest_72 rfl hl (by decide) rfl (fun ls hl => ?_)
                refine lv_iinc (v := nI (i + 1)) (lv' := [(3, .int (nI (i + 1))), (2, .int (nI i)), (0, .ref aM), (1, .int k)]) hx hb d_M_loudest_73 hl (k := 1) rfl (nI_succ _).symm (by decide) rfl (fun ls hl => ?_)
                refine lv_goto (tgt := 42) hx hb d_M_loudest_76 (by decide) ?_
                exact ih (i + 1) (nI i) ((mlo zs sc li kp as9_4 bs9_5 cs9_6) i) (by omega) (by omega) (Or.inr ⟨i, i5, rfl, rfl⟩) (by rw [← hj, show 500 - i = 500 - (i + 1) + 1 by omega]; exact (if_neg (by rw [ey]; exact c_64)).symm) _ _ hP hD hS ls (lv_sub hl [0, 1, 2, 3] rfl)
      exact lp 501 (k + 1).toNatClampNeg (-1) (-1) (by omega) (by omega) (Or.inl ⟨rfl, rfl⟩) rfl _ _ hP hD hS ls (lv_sub hl [0, 1, 2, 3] rfl)
    · skip
      exact absurd (by decide) c_27

set_option maxHeartbeats 4000000 in
set_option maxRecDepth 100000 in
theorem n_M_loudest (l : Launch) (dC : Nat → ClassId) (dI : Nat → Nat → Nat) (cI cL : ClassId) (aM : Nat) (th0 : Int32) (kn : Int32) (mS : Nat) (mC : Nat) (mL : Nat) (mK : Nat) (mQ : Nat) (mT : Nat) (mD : Nat) (mA : Nat) (mB : Nat) (mG : Nat) (k : Int32) (sz : Nat) (h : ¬ (wi k (-1) 499)) : Met l y_M_loudest w_M_loudest ({ frames := 1, cells := 0, slots := 0, locals := 25 }) (wr_P (dC, dI) cI cL [(aM, .inr (3, [.int th0, .ref mS, .ref mC, .ref mL, .ref mK, .int kn, .ref mQ, .ref mT, .ref mD, .ref mA, .ref mB, .ref mG]))] sz [.ref aM, .int k]) (wr_i 0 (dC, dI) (va_A [(aM, .inr (3, [.int th0, .ref mS, .ref mC, .ref mL, .ref mK, .int kn, .ref mQ, .ref mT, .ref mD, .ref mA, .ref mB, .ref mG]))] sz) [(aM, .inr (3, [.int 1, .ref mS, .ref mC, .ref mL, .ref mK, .int kn, .ref mQ, .ref mT, .ref mD, .ref mA, .ref mB, .ref mG]))]) 0 0 (va_A [(aM, .inr (3, [.int th0, .ref mS, .ref mC, .ref mL, .ref mK, .int kn, .ref mQ, .ref mT, .ref mD, .ref mA, .ref mB, .ref mG]))] sz) := by
  refine Met.ofW (cc := b_M_loudest) (maxL := 4) (ret := (some .int)) (by decide) rfl ?_
  intro p e s m args below meth c s₁ B hml hv
  obtain ⟨rfl, hsz, hP, hM, hD0⟩ := hv
  have hx := B.exec
  have hb := B.bytes
  have hr := B.returns
  have hts := atoms_spec (ws := w_M_loudest) B.pre
  have hown : s.vm.findClass "RoomEchoesModel" = some m.cls := findClass_of_methodNamed B.named
  have hlocks := B.notSynchronized
  have hK := hM.1
  subst hsz
  have hD := hD0.self (sz := s.heap.size)
  generalize hAe : va_A [(aM, .inr (3, [.int th0, .ref mS, .ref mC, .ref mL, .ref mK, .int kn, .ref mQ, .ref mT, .ref mD, .ref mA, .ref mB, .ref mG]))] s.heap.size = A at hD ⊢
  have hA : ∀ q : Nat, s.heap.size ≤ q → A q := fun q h => by rw [← hAe]; exact Or.inr h
  have hS : va_S A s.heap s.heap [] := va_S.rf
  have hP : va_P (dC, dI) vwCl [(aM, .inr (3, [.int th0, .ref mS, .ref mC, .ref mL, .ref mK, .int kn, .ref mQ, .ref mT, .ref mD, .ref mA, .ref mB, .ref mG]))] s.heap := hP
  have hl := lv_entry ([.ref aM, .int k]) (n := 4) (Nat.le_of_ble_eq_true rfl)
  rw [lg_entry_eq]
  generalize (lg_sl ([.ref aM, .int k]) ++ List.replicate (4 - (lg_sl ([.ref aM, .int k])).length) Slot.unset).toArray = ls at hl ⊢
  have hl : lv_has ls 4 [(0, .ref aM), (1, .int k)] := hl
  refine lv_aload_n hx hb d_M_loudest_0 rfl (lv_at hl 0 rfl) ?_
  refine lv_iload_n hx hb d_M_loudest_1 rfl (lv_at hl 1 rfl) ?_
  refine lv_i2l hx hb d_M_loudest_2 rfl ?_
  refine lv_ldc2 (v := (-1)) hx hb hown (ht_ hts mw593) d_M_loudest_3 ?_
  refine lv_ldc2 (v := 499) hx hb hown (ht_ hts mw530) d_M_loudest_6 ?_
  refine rd_c (va_runS (As := [.long k.toInt64, .long (-1), .long 499]) (rest := [.ref aM]) ⟨hx, hb, hml, hown, hts⟩ (c_M_in l k.toInt64 (-1) 499) (cwS 3 hts (gi_S mw475 mw473 mw474 mw33) rfl rfl rfl (by decide +kernel) ⟨Nat.le_of_ble_eq_true rfl, Nat.le_of_ble_eq_true rfl⟩) st_S rfl rfl hl.1 rfl (lv_room (Nat.le_of_ble_eq_true rfl)) d_M_loudest_9 ⟨Nat.le_of_ble_eq_true rfl, Nat.le_of_ble_eq_true rfl⟩) ?_
  refine lv_if_eq (tgt := 19) hx hb d_M_loudest_12 (by decide) (fun c_12 => ?_) (fun c_12 => ?_)
  · skip
    refine lv_iconst (v := 1) hx hb d_M_loudest_19 (by decide) ?_
    refine va_put (D := (dC, dI)) (ci := 3) (v := .int 1) (ty := .int) (C := "RoomEchoesModel") (T := FT_M) (N := 12) hx hb hts (hi_ in_M) ty_M tyo_M nm_M hown hK hP hD hS 0 rfl rfl 0 (by decide) (ht_ hts mw424) (fun _ h9 => h9) rfl (by decide +kernel) rfl rfl (Nat.le_of_ble_eq_true rfl) d_M_loudest_20 (fun H locs hP hD hS => ?_)
    have hP : va_P (dC, dI) vwCl [(aM, .inr (3, [.int 1, .ref mS, .ref mC, .ref mL, .ref mK, .int kn, .ref mQ, .ref mT, .ref mD, .ref mA, .ref mB, .ref mG]))] H := hP
    have hD : va_D A [(aM, .inr (3, [.int 1, .ref mS, .ref mC, .ref mL, .ref mK, .int kn, .ref mQ, .ref mT, .ref mD, .ref mA, .ref mB, .ref mG]))] := hD
    refine lv_aload_n hx hb d_M_loudest_23 rfl (lv_at hl 0 rfl) ?_
    refine va_get (D := (dC, dI)) (ci := 3) (v := .int 1) (C := "RoomEchoesModel") (T := FT_M) (N := 12) hx hb hts (hi_ in_M) hown hK hP 0 rfl rfl 0 (by decide) (ht_ hts mw424) (fun _ h9 => h9) rfl d_M_loudest_24 ?_
    refine lv_if_le (tgt := 32) hx hb d_M_loudest_27 (by decide) (fun c_27 => ?_) (fun c_27 => ?_)
    · skip
      exact absurd c_27 (by decide)
    · skip
      refine lv_iconst (v := 0) hx hb d_M_loudest_30 (by decide) ?_
      have hP9 : va_P (dC, dI) vwCl [(aM, .inr (3, [.int 1, .ref mS, .ref mC, .ref mL, .ref mK, .int kn, .ref mQ, .ref mT, .ref mD, .ref mA, .ref mB, .ref mG]))] H := hP
      have hD9 : va_D A [(aM, .inr (3, [.int 1, .ref mS, .ref mC, .ref mL, .ref mK, .int kn, .ref mQ, .ref mT, .ref mD, .ref mA, .ref mB, .ref mG]))] := hD
      exact W.iret (v := 0) hx hb hr (fun t ht hW => ⟨⟨_, (), rfl, rfl, by rw [ht]; exact hP9, hD9⟩, hS.F ht⟩) hS.2.2 d_M_loudest_31
  · skip
    exact absurd (in_n (lo := -1) (hi := 499) (by decide) (by decide) c_12) h
