set_option maxHeartbeats 4000000 in
set_option maxRecDepth 100000 in
theorem c_M_prepare (l : Launch) (dC : Nat → ClassId) (dI : Nat → Nat → Nat) (cI cL : ClassId) (aM : Nat) (th0 : Int32) (kn : Int32) (mS : Nat) (mC : Nat) (mL : Nat) (mK : Nat) (mQ : Nat) (mT : Nat) (mD : Nat) (mA : Nat) (mB : Nat) (mG : Nat) (zs : Nat → Int32) (sc : Nat → Int32) (li : Nat → Int32) (sq : Nat → Int64) (so : Nat → Int64) (sz : Nat) (hax : ∀ a, a < 3 → axok (zs a) (sc a) (li a)) : Met l y_M_prepare w_M_prepare ({ frames := 1, cells := 0, slots := 0, locals := 26 }) (wr_P (dC, dI) cI cL [(aM, .inr (3, [.int th0, .ref mS, .ref mC, .ref mL, .ref mK, .int kn, .ref mQ, .ref mT, .ref mD, .ref mA, .ref mB, .ref mG])), (mS, .inl (cI, 3, .inl zs)), (mC, .inl (cI, 3, .inl sc)), (mL, .inl (cI, 3, .inl li)), (mQ, .inl (cL, 243, .inr (.inl sq))), (mT, .inl (cL, 243, .inr (.inl so)))] sz [.ref aM]) (va_Qv (fun (u : (Nat → Int64) × (Nat → Int64)) => ∀ a, a < 3 → PA zs sc li u.1 u.2 a 81) (fun u t => va_P (dC, dI) vwCl [(aM, .inr (3, [.int th0, .ref mS, .ref mC, .ref mL, .ref mK, .int kn, .ref mQ, .ref mT, .ref mD, .ref mA, .ref mB, .ref mG])), (mS, .inl (cI, 3, .inl zs)), (mC, .inl (cI, 3, .inl sc)), (mL, .inl (cI, 3, .inl li)), (mQ, .inl (cL, 243, .inr (.inl u.1))), (mT, .inl (cL, 243, .inr (.inl u.2)))] t.heap ∧ va_D (va_A [(aM, .inr (3, [.int th0, .ref mS, .ref mC, .ref mL, .ref mK, .int kn, .ref mQ, .ref mT, .ref mD, .ref mA, .ref mB, .ref mG])), (mS, .inl (cI, 3, .inl zs)), (mC, .inl (cI, 3, .inl sc)), (mL, .inl (cI, 3, .inl li)), (mQ, .inl (cL, 243, .inr (.inl sq))), (mT, .inl (cL, 243, .inr (.inl so)))] sz) [(aM, .inr (3, [.int th0, .ref mS, .ref mC, .ref mL, .ref mK, .int kn, .ref mQ, .ref mT, .ref mD, .ref mA, .ref mB, .ref mG])), (mS, .inl (cI, 3, .inl zs)), (mC, .inl (cI, 3, .inl sc)), (mL, .inl (cI, 3, .inl li)), (mQ, .inl (cL, 243, .inr (.inl u.1))), (mT, .inl (cL, 243, .inr (.inl u.2)))]) (va_A [(aM, .inr (3, [.int th0, .ref mS, .ref mC, .ref mL, .ref mK, .int kn, .ref mQ, .ref mT, .ref mD, .ref mA, .ref mB, .ref mG])), (mS, .inl (cI, 3, .inl zs)), (mC, .inl (cI, 3, .inl sc)), (mL, .inl (cI, 3, .inl li)), (mQ, .inl (cL, 243, .inr (.inl sq))), (mT, .inl (cL, 243, .inr (.inl so)))] sz)) 0 0 (va_A [(aM, .inr (3, [.int th0, .ref mS, .ref mC, .ref mL, .ref mK, .int kn, .ref mQ, .ref mT, .ref mD, .ref mA, .ref mB, .ref mG])), (mS, .inl (cI, 3, .inl zs)), (mC, .inl (cI, 3, .inl sc)), (mL, .inl (cI, 3, .inl li)), (mQ, .inl (cL, 243, .inr (.inl sq))), (mT, .inl (cL, 243, .inr (.inl so)))] sz) := by
  refine Met.ofW (cc := b_M_prepare) (maxL := 6) (ret := none) (by decide) rfl ?_
  intro p e s m args below meth c s₁ B hml hv
  obtain ⟨rfl, hsz, hP, hM, hD0⟩ := hv
  have hx := B.exec
  have hb := B.bytes
  have hr := B.returns
  have hts := atoms_spec (ws := w_M_prepare) B.pre
  have hown : s.vm.findClass "RoomEchoesModel" = some m.cls := findClass_of_methodNamed B.named
  have hlocks := B.notSynchronized
  have hK := hM.1
  subst hsz
  have hD := hD0.self (sz := s.heap.size)
  generalize hAe : va_A [(aM, .inr (3, [.int th0, .ref mS, .ref mC, .ref mL, .ref mK, .int kn, .ref mQ, .ref mT, .ref mD, .ref mA, .ref mB, .ref mG])), (mS, .inl (cI, 3, .inl zs)), (mC, .inl (cI, 3, .inl sc)), (mL, .inl (cI, 3, .inl li)), (mQ, .inl (cL, 243, .inr (.inl sq))), (mT, .inl (cL, 243, .inr (.inl so)))] s.heap.size = A at hD ⊢
  have hA : ∀ q : Nat, s.heap.size ≤ q → A q := fun q h => by rw [← hAe]; exact Or.inr h
  have hS : va_S A s.heap s.heap [] := va_S.rf
  have hP : va_P (dC, dI) vwCl [(aM, .inr (3, [.int th0, .ref mS, .ref mC, .ref mL, .ref mK, .int kn, .ref mQ, .ref mT, .ref mD, .ref mA, .ref mB, .ref mG])), (mS, .inl (cI, 3, .inl zs)), (mC, .inl (cI, 3, .inl sc)), (mL, .inl (cI, 3, .inl li)), (mQ, .inl (cL, 243, .inr (.inl sq))), (mT, .inl (cL, 243, .inr (.inl so)))] s.heap := hP
  have hl := lv_entry ([.ref aM]) (n := 6) (Nat.le_of_ble_eq_true rfl)
  rw [lg_entry_eq]
  generalize (lg_sl ([.ref aM]) ++ List.replicate (6 - (lg_sl ([.ref aM])).length) Slot.unset).toArray = ls at hl ⊢
  have hl : lv_has ls 6 [(0, .ref aM)] := hl
  refine lv_iconst (v := 0) hx hb d_M_prepare_0 (by decide) ?_
  refine lv_istore_n (lv' := [(1, .int 0), (0, .ref aM)]) hx hb d_M_prepare_1 rfl hl (by decide) rfl (fun ls hl => ?_)
  have lpa : ∀ (fa : Nat) (ax : Nat) (sq1 : Nat → Int64) (so1 : Nat → Int64), 3 < ax + fa → ax ≤ 3 → (∀ a, a < ax → PA zs sc li sq1 so1 a 81) → ∀ (H : Heap) (locs : List Loc), va_P (dC, dI) vwCl [(aM, .inr (3, [.int th0, .ref mS, .ref mC, .ref mL, .ref mK, .int kn, .ref mQ, .ref mT, .ref mD, .ref mA, .ref mB, .ref mG])), (mS, .inl (cI, 3, .inl zs)), (mC, .inl (cI, 3, .inl sc)), (mL, .inl (cI, 3, .inl li)), (mQ, .inl (cL, 243, .inr (.inl sq1))), (mT, .inl (cL, 243, .inr (.inl so1)))] H → va_D A [(aM, .inr (3, [.int th0, .ref mS, .ref mC, .ref mL, .ref mK, .int kn, .ref mQ, .ref mT, .ref mD, .ref mA, .ref mB, .ref mG])), (mS, .inl (cI, 3, .inl zs)), (mC, .inl (cI, 3, .inl sc)), (mL, .inl (cI, 3, .inl li)), (mQ, .inl (cL, 243, .inr (.inl sq1))), (mT, .inl (cL, 243, .inr (.inl so1)))] → va_S A s.heap H locs → ∀ (ls : Array Slot), lv_has ls 6 [(1, .int (nI ax)), (0, .ref aM)] → W p l e (headSpec w_M_prepare ({ frames := 1, cells := 0, slots := 0, locals := 26 })).room s m ([.ref aM] : List Value).toArray below meth c H locs 0 0 (MQ below (va_Qv (fun (u : (Nat → Int64) × (Nat → Int64)) => ∀ a, a < 3 → PA zs sc li u.1 u.2 a 81) (fun u t => va_P (dC, dI) vwCl [(aM, .inr (3, [.int th0, .ref mS, .ref mC, .ref mL, .ref mK, .int kn, .ref mQ, .ref mT, .ref mD, .ref mA, .ref mB, .ref mG])), (mS, .inl (cI, 3, .inl zs)), (mC, .inl (cI, 3, .inl sc)), (mL, .inl (cI, 3, .inl li)), (mQ, .inl (cL, 243, .inr (.inl u.1))), (mT, .inl (cL, 243, .inr (.inl u.2)))] t.heap ∧ va_D A [(aM, .inr (3, [.int th0, .ref mS, .ref mC, .ref mL, .ref mK, .int kn, .ref mQ, .ref mT, .ref mD, .ref mA, .ref mB, .ref mG])), (mS, .inl (cI, 3, .inl zs)), (mC, .inl (cI, 3, .inl sc)), (mL, .inl (cI, 3, .inl li)), (mQ, .inl (cL, 243, .inr (.inl u.1))), (mT, .inl (cL, 243, .inr (.inl u.2)))]) A) ([.ref aM] : List Value).toArray s 0 0 A) (F0 m 2 ls []) := by
    intro fa
    induction fa with
    | zero => intro ax sq1 so1 hfa hia hp1 H locs hP hD hS ls hl; omega
    | succ fa iha =>
      intro ax sq1 so1 hfa hia hp1 H locs hP hD hS ls hl
      refine lv_iload_n hx hb d_M_prepare_2 rfl (lv_at hl 0 rfl) ?_
      refine lv_iconst (v := 3) hx hb d_M_prepare_3 (by decide) ?_
      refine lv_icmp_ge (tgt := 121) hx hb d_M_prepare_4 (by decide) (fun c_4 => ?_) (fun c_4 => ?_)
      · skip
        have a3 : ax = 3 := by have : 3 ≤ ax := nu_end (x := 3) (by omega) c_4; omega
        have hP9 : va_P (dC, dI) vwCl [(aM, .inr (3, [.int th0, .ref mS, .ref mC, .ref mL, .ref mK, .int kn, .ref mQ, .ref mT, .ref mD, .ref mA, .ref mB, .ref mG])), (mS, .inl (cI, 3, .inl zs)), (mC, .inl (cI, 3, .inl sc)), (mL, .inl (cI, 3, .inl li)), (mQ, .inl (cL, 243, .inr (.inl sq1))), (mT, .inl (cL, 243, .inr (.inl so1)))] _ := hP
        have hD9 : va_D A [(aM, .inr (3, [.int th0, .ref mS, .ref mC, .ref mL, .ref mK, .int kn, .ref mQ, .ref mT, .ref mD, .ref mA, .ref mB, .ref mG])), (mS, .inl (cI, 3, .inl zs)), (mC, .inl (cI, 3, .inl sc)), (mL, .inl (cI, 3, .inl li)), (mQ, .inl (cL, 243, .inr (.inl sq1))), (mT, .inl (cL, 243, .inr (.inl so1)))] := hD
        exact W.vret hx hb hr (fun t ht hW => ⟨⟨(sq1, so1), rfl, (fun a ha => hp1 a (by omega)), by rw [ht]; exact hP9, hD9⟩, hS.F ht⟩) hS.2.2 d_M_prepare_121
      · skip
        refine lv_iconst (v := 0) hx hb d_M_prepare_7 (by decide) ?_
        refine lv_istore_n (lv' := [(2, .int 0), (1, .int (nI ax)), (0, .ref aM)]) hx hb d_M_prepare_8 rfl hl (by decide) rfl (fun ls hl => ?_)
        have a5 : ax < 3 := nu_on (x := 3) (by omega) c_4
        have lpb : ∀ (fb : Nat) (k : Nat) (sq2 : Nat → Int64) (so2 : Nat → Int64), 81 < k + fb → k ≤ 81 → (∀ a, a < ax → PA zs sc li sq2 so2 a 81) → PA zs sc li sq2 so2 ax k → ∀ (H : Heap) (locs : List Loc), va_P (dC, dI) vwCl [(aM, .inr (3, [.int th0, .ref mS, .ref mC, .ref mL, .ref mK, .int kn, .ref mQ, .ref mT, .ref mD, .ref mA, .ref mB, .ref mG])), (mS, .inl (cI, 3, .inl zs)), (mC, .inl (cI, 3, .inl sc)), (mL, .inl (cI, 3, .inl li)), (mQ, .inl (cL, 243, .inr (.inl sq2))), (mT, .inl (cL, 243, .inr (.inl so2)))] H → va_D A [(aM, .inr (3, [.int th0, .ref mS, .ref mC, .ref mL, .ref mK, .int kn, .ref mQ, .ref mT, .ref mD, .ref mA, .ref mB, .ref mG])), (mS, .inl (cI, 3, .inl zs)), (mC, .inl (cI, 3, .inl sc)), (mL, .inl (cI, 3, .inl li)), (mQ, .inl (cL, 243, .inr (.inl sq2))), (mT, .inl (cL, 243, .inr (.inl so2)))] → va_S A s.heap H locs → ∀ (ls : Array Slot), lv_has ls 6 [(2, .int (nI k)), (1, .int (nI ax)), (0, .ref aM)] → W p l e (headSpec w_M_prepare ({ frames := 1, cells := 0, slots := 0, locals := 26 })).room s m ([.ref aM] : List Value).toArray below meth c H locs 0 0 (MQ below (va_Qv (fun (u : (Nat → Int64) × (Nat → Int64)) => ∀ a, a < 3 → PA zs sc li u.1 u.2 a 81) (fun u t => va_P (dC, dI) vwCl [(aM, .inr (3, [.int th0, .ref mS, .ref mC, .ref mL, .ref mK, .int kn, .ref mQ, .ref mT, .ref mD, .ref mA, .ref mB, .ref mG])), (mS, .inl (cI, 3, .inl zs)), (mC, .inl (cI, 3, .inl sc)), (mL, .inl (cI, 3, .inl li)), (mQ, .inl (cL, 243, .inr (.inl u.1))), (mT, .inl (cL, 243, .inr (.inl u.2)))] t.heap ∧ va_D A [(aM, .inr (3, [.int th0, .ref mS, .ref mC, .ref mL, .ref mK, .int kn, .ref mQ, .ref mT, .ref mD, .ref mA, .ref mB, .ref mG])), (mS, .inl (cI, 3, .inl zs)), (mC, .inl (cI, 3, .inl sc)), (mL, .inl (cI, 3, .inl li)), (mQ, .inl (cL, 243, .inr (.inl u.1))), (mT, .inl (cL, 243, .inr (.inl u.2)))]) A) ([.ref aM] : List Value).toArray s 0 0 A) (F0 m 9 ls []) := by
          intro fb
          induction fb with
          | zero => intro k sq2 so2 hfb hk hp2 hp3 H locs hP hD hS ls hl; omega
          | succ fb ihb =>
            intro k sq2 so2 hfb hk hp2 hp3 H locs hP hD hS ls hl
            refine lv_iload_n hx hb d_M_prepare_9 rfl (lv_at hl 0 rfl) ?_
            refine lv_bipush (v := 81) hx hb d_M_prepare_10 (by decide) ?_
            refine lv_icmp_ge (tgt := 115) hx hb d_M_prepare_12 (by decide) (fun c_12 => ?_) (fun c_12 => ?_)
            · skip
              refine lv_iinc (v := nI (ax + 1)) (lv' := [(1, .int (nI (ax + 1))), (2, .int (nI k)), (0, .ref aM)]) hx hb d_M_prepare_115 hl (k := 1) rfl (nI_succ _).symm (by decide) rfl (fun ls hl => ?_)
              refine lv_goto (tgt := 2) hx hb d_M_prepare_118 (by decide) ?_
              exact iha (ax + 1) _ _ (by omega) (by omega) (PA_next hp2 (by rw [show (81 : Nat) = k by have : 81 ≤ k := nu_end (x := 81) (by omega) c_12; omega]; exact hp3)) _ _ hP hD hS ls (lv_sub hl [0, 2] rfl)
            · skip
              have k5 : k < 81 := nu_on (x := 81) (by omega) c_12
              refine lv_aload_n hx hb d_M_prepare_15 rfl (lv_at hl 2 rfl) ?_
              refine lv_iload_n hx hb d_M_prepare_16 rfl (lv_at hl 1 rfl) ?_
              refine lv_iload_n hx hb d_M_prepare_17 rfl (lv_at hl 0 rfl) ?_
              refine lv_bipush (v := 40) hx hb d_M_prepare_18 (by decide) ?_
              refine lv_isub hx hb d_M_prepare_20 ?_
              refine tp_i (nz k) (nI_40 k5) ?_
              have hPc := hP.sub (ws' := [(aM, .inr (3, [.int th0, .ref mS, .ref mC, .ref mL, .ref mK, .int kn, .ref mQ, .ref mT, .ref mD, .ref mA, .ref mB, .ref mG])), (mS, .inl (cI, 3, .inl zs)), (mC, .inl (cI, 3, .inl sc)), (mL, .inl (cI, 3, .inl li))]) [0, 1, 2, 3] rfl
              refine rd_c (va_runV (As := [.int (nI ax), .int (nz k)]) (rest := []) ⟨hx, hb, hml, hown, hts⟩ (c_M_square l dC dI cI cL aM th0 kn mS mC mL mK mQ mT mD mA mB mG zs sc li ax (nz k) a5) (cwV 2 hts (gi_V mw507 mw504 mw506 mw17 mw33) rfl rfl rfl (by decide +kernel) ⟨Nat.le_of_ble_eq_true rfl, Nat.le_of_ble_eq_true rfl⟩) (rd_V hM hPc rfl rfl rfl) rfl rfl hl.1 rfl (lv_room (Nat.le_of_ble_eq_true rfl)) d_M_prepare_21 ⟨Nat.le_of_ble_eq_true rfl, Nat.le_of_ble_eq_true rfl⟩) ?_
              refine tp_l (lN (qz zs sc li ax k)) (msq (hax ax a5) k5) ?_
              refine lv_lstore_n (lv' := [(3, .long (lN (qz zs sc li ax k))), (2, .int (nI k)), (1, .int (nI ax)), (0, .ref aM)]) hx hb d_M_prepare_24 rfl hl (by decide) rfl (fun ls hl => ?_)
              refine lv_aload_n hx hb d_M_prepare_25 rfl (lv_at hl 3 rfl) ?_
              refine va_get (D := (dC, dI)) (ci := 3) (v := .ref mQ) (C := "RoomEchoesModel") (T := FT_M) (N := 12) hx hb hts (hi_ in_M) hown hK hP 0 rfl rfl 6 (by decide) (ht_ hts mw430) (fun _ h9 => h9) rfl d_M_prepare_26 ?_
              refine lv_bipush (v := 81) hx hb d_M_prepare_29 (by decide) ?_
              refine lv_iload_n hx hb d_M_prepare_31 rfl (lv_at hl 2 rfl) ?_
              refine lv_imul hx hb d_M_prepare_32 ?_
              refine tp_i (nI (81 * ax)) (pk_mul 81 ax) ?_
              refine lv_iload_n hx hb d_M_prepare_33 rfl (lv_at hl 1 rfl) ?_
              refine lv_iadd hx hb d_M_prepare_34 ?_
              refine tp_i (nI (81 * ax + k)) (nI_add (81 * ax) k) ?_
              refine lv_lload_n hx hb d_M_prepare_35 rfl (lv_at hl 0 rfl) ?_
              refine va_last hx hb hK hP hD hS 4 1 rfl rfl (vp_in_nI (by omega) (by omega)) d_M_prepare_36 (fun H locs hP hD hS => ?_)
              rw [nI_clamp (n := (81 * ax + k)) (by omega)] at hP hD
              have hP : va_P (dC, dI) vwCl [(aM, .inr (3, [.int th0, .ref mS, .ref mC, .ref mL, .ref mK, .int kn, .ref mQ, .ref mT, .ref mD, .ref mA, .ref mB, .ref mG])), (mS, .inl (cI, 3, .inl zs)), (mC, .inl (cI, 3, .inl sc)), (mL, .inl (cI, 3, .inl li)), (mQ, .inl (cL, 243, .inr (.inl (vp_updL sq2 (81 * ax + k) (lN (qz zs sc li ax k)))))), (mT, .inl (cL, 243, .inr (.inl so2)))] H := hP
              have hD : va_D A [(aM, .inr (3, [.int th0, .ref mS, .ref mC, .ref mL, .ref mK, .int kn, .ref mQ, .ref mT, .ref mD, .ref mA, .ref mB, .ref mG])), (mS, .inl (cI, 3, .inl zs)), (mC, .inl (cI, 3, .inl sc)), (mL, .inl (cI, 3, .inl li)), (mQ, .inl (cL, 243, .inr (.inl (vp_updL sq2 (81 * ax + k) (lN (qz zs sc li ax k)))))), (mT, .inl (cL, 243, .inr (.inl so2)))] := hD
              refine lv_iload_n hx hb d_M_prepare_37 rfl (lv_at hl 1 rfl) ?_
              refine lv_istore (lv' := [(5, .int (nI k)), (3, .long (lN (qz zs sc li ax k))), (2, .int (nI k)), (1, .int (nI ax)), (0, .ref aM)]) hx hb d_M_prepare_38 hl (by decide) rfl (fun ls hl => ?_)
              have hP : va_P (dC, dI) vwCl [(aM, .inr (3, [.int th0, .ref mS, .ref mC, .ref mL, .ref mK, .int kn, .ref mQ, .ref mT, .ref mD, .ref mA, .ref mB, .ref mG])), (mS, .inl (cI, 3, .inl zs)), (mC, .inl (cI, 3, .inl sc)), (mL, .inl (cI, 3, .inl li)), (mQ, .inl (cL, 243, .inr (.inl (vp_updL sq2 (81 * ax + k) (lN (qz zs sc li ax k)))))), (mT, .inl (cL, 243, .inr (.inl (sf so2 (81 * ax + k) (81 * ax + k)))))] H := by rw [sf_n]; exact hP
              have hD : va_D A [(aM, .inr (3, [.int th0, .ref mS, .ref mC, .ref mL, .ref mK, .int kn, .ref mQ, .ref mT, .ref mD, .ref mA, .ref mB, .ref mG])), (mS, .inl (cI, 3, .inl zs)), (mC, .inl (cI, 3, .inl sc)), (mL, .inl (cI, 3, .inl li)), (mQ, .inl (cL, 243, .inr (.inl (vp_updL sq2 (81 * ax + k) (lN (qz zs sc li ax k)))))), (mT, .inl (cL, 243, .inr (.inl (sf so2 (81 * ax + k) (81 * ax + k)))))] := by rw [sf_n]; exact hD
              have lpc : ∀ (fc : Nat) (k2 : Nat), k2 < fc → k2 ≤ k → mi_p (fun j => so2 (81 * ax + j)) (lN (qz zs sc li ax k)) k2 = mi_p (fun j => so2 (81 * ax + j)) (lN (qz zs sc li ax k)) k → ∀ (H : Heap) (locs : List Loc), va_P (dC, dI) vwCl [(aM, .inr (3, [.int th0, .ref mS, .ref mC, .ref mL, .ref mK, .int kn, .ref mQ, .ref mT, .ref mD, .ref mA, .ref mB, .ref mG])), (mS, .inl (cI, 3, .inl zs)), (mC, .inl (cI, 3, .inl sc)), (mL, .inl (cI, 3, .inl li)), (mQ, .inl (cL, 243, .inr (.inl (vp_updL sq2 (81 * ax + k) (lN (qz zs sc li ax k)))))), (mT, .inl (cL, 243, .inr (.inl (sf so2 (81 * ax + k2) (81 * ax + k)))))] H → va_D A [(aM, .inr (3, [.int th0, .ref mS, .ref mC, .ref mL, .ref mK, .int kn, .ref mQ, .ref mT, .ref mD, .ref mA, .ref mB, .ref mG])), (mS, .inl (cI, 3, .inl zs)), (mC, .inl (cI, 3, .inl sc)), (mL, .inl (cI, 3, .inl li)), (mQ, .inl (cL, 243, .inr (.inl (vp_updL sq2 (81 * ax + k) (lN (qz zs sc li ax k)))))), (mT, .inl (cL, 243, .inr (.inl (sf so2 (81 * ax + k2) (81 * ax + k)))))] → va_S A s.heap H locs → ∀ (ls : Array Slot), lv_has ls 6 [(5, .int (nI k2)), (3, .long (lN (qz zs sc li ax k))), (2, .int (nI k)), (1, .int (nI ax)), (0, .ref aM)] → W p l e (headSpec w_M_prepare ({ frames := 1, cells := 0, slots := 0, locals := 26 })).room s m ([.ref aM] : List Value).toArray below meth c H locs 0 0 (MQ below (va_Qv (fun (u : (Nat → Int64) × (Nat → Int64)) => ∀ a, a < 3 → PA zs sc li u.1 u.2 a 81) (fun u t => va_P (dC, dI) vwCl [(aM, .inr (3, [.int th0, .ref mS, .ref mC, .ref mL, .ref mK, .int kn, .ref mQ, .ref mT, .ref mD, .ref mA, .ref mB, .ref mG])), (mS, .inl (cI, 3, .inl zs)), (mC, .inl (cI, 3, .inl sc)), (mL, .inl (cI, 3, .inl li)), (mQ, .inl (cL, 243, .inr (.inl u.1))), (mT, .inl (cL, 243, .inr (.inl u.2)))] t.heap ∧ va_D A [(aM, .inr (3, [.int th0, .ref mS, .ref mC, .ref mL, .ref mK, .int kn, .ref mQ, .ref mT, .ref mD, .ref mA, .ref mB, .ref mG])), (mS, .inl (cI, 3, .inl zs)), (mC, .inl (cI, 3, .inl sc)), (mL, .inl (cI, 3, .inl li)), (mQ, .inl (cL, 243, .inr (.inl u.1))), (mT, .inl (cL, 243, .inr (.inl u.2)))]) A) ([.ref aM] : List Value).toArray s 0 0 A) (F0 m 40 ls []) := by
                intro fc
                induction fc with
                | zero => intro k2 hfc hk2 hj H locs hP hD hS ls hl; omega
                | succ fc ihc =>
                  intro k2 hfc hk2 hj H locs hP hD hS ls hl
                  refine lv_iload hx hb d_M_prepare_40 (lv_at hl 0 rfl) ?_
                  refine lv_if_le (tgt := 96) hx hb d_M_prepare_42 (by decide) (fun c_42 => ?_) (fun c_42 => ?_)
                  · skip
                    refine lv_aload_n hx hb d_M_prepare_96 rfl (lv_at hl 4 rfl) ?_
                    refine va_get (D := (dC, dI)) (ci := 3) (v := .ref mT) (C := "RoomEchoesModel") (T := FT_M) (N := 12) hx hb hts (hi_ in_M) hown hK hP 0 rfl rfl 7 (by decide) (ht_ hts mw431) (fun _ h9 => h9) rfl d_M_prepare_97 ?_
                    refine lv_bipush (v := 81) hx hb d_M_prepare_100 (by decide) ?_
                    refine lv_iload_n hx hb d_M_prepare_102 rfl (lv_at hl 3 rfl) ?_
                    refine lv_imul hx hb d_M_prepare_103 ?_
                    refine tp_i (nI (81 * ax)) (pk_mul 81 ax) ?_
                    refine lv_iload hx hb d_M_prepare_104 (lv_at hl 0 rfl) ?_
                    refine lv_iadd hx hb d_M_prepare_106 ?_
                    refine tp_i (nI (81 * ax + k2)) (nI_add (81 * ax) k2) ?_
                    refine lv_lload_n hx hb d_M_prepare_107 rfl (lv_at hl 1 rfl) ?_
                    refine va_last hx hb hK hP hD hS 5 1 rfl rfl (vp_in_nI (by omega) (by omega)) d_M_prepare_108 (fun H locs hP hD hS => ?_)
                    rw [nI_clamp (n := (81 * ax + k2)) (by omega)] at hP hD
                    have hP : va_P (dC, dI) vwCl [(aM, .inr (3, [.int th0, .ref mS, .ref mC, .ref mL, .ref mK, .int kn, .ref mQ, .ref mT, .ref mD, .ref mA, .ref mB, .ref mG])), (mS, .inl (cI, 3, .inl zs)), (mC, .inl (cI, 3, .inl sc)), (mL, .inl (cI, 3, .inl li)), (mQ, .inl (cL, 243, .inr (.inl (vp_updL sq2 (81 * ax + k) (lN (qz zs sc li ax k)))))), (mT, .inl (cL, 243, .inr (.inl (vp_updL (sf so2 (81 * ax + k2) (81 * ax + k)) (81 * ax + k2) (lN (qz zs sc li ax k))))))] H := hP
                    have hD : va_D A [(aM, .inr (3, [.int th0, .ref mS, .ref mC, .ref mL, .ref mK, .int kn, .ref mQ, .ref mT, .ref mD, .ref mA, .ref mB, .ref mG])), (mS, .inl (cI, 3, .inl zs)), (mC, .inl (cI, 3, .inl sc)), (mL, .inl (cI, 3, .inl li)), (mQ, .inl (cL, 243, .inr (.inl (vp_updL sq2 (81 * ax + k) (lN (qz zs sc li ax k)))))), (mT, .inl (cL, 243, .inr (.inl (vp_updL (sf so2 (81 * ax + k2) (81 * ax + k)) (81 * ax + k2) (lN (qz zs sc li ax k))))))] := hD
                    refine lv_iinc (v := nI (k + 1)) (lv' := [(2, .int (nI (k + 1))), (5, .int (nI k2)), (3, .long (lN (qz zs sc li ax k))), (1, .int (nI ax)), (0, .ref aM)]) hx hb d_M_prepare_109 hl (k := 2) rfl (nI_succ _).symm (by decide) rfl (fun ls hl => ?_)
                    refine lv_goto (tgt := 9) hx hb d_M_prepare_112 (by decide) ?_
                    have e9 : k2 = mi_p (fun j => so2 (81 * ax + j)) (lN (qz zs sc li ax k)) k := by rw [← hj, show k2 = 0 by rw [Int32.le_iff_toInt_le, nI_toInt (by omega)] at c_42; have h0 : (0 : Int32).toInt = 0 := rfl; omega]; rfl
                    have hP : va_P (dC, dI) vwCl [(aM, .inr (3, [.int th0, .ref mS, .ref mC, .ref mL, .ref mK, .int kn, .ref mQ, .ref mT, .ref mD, .ref mA, .ref mB, .ref mG])), (mS, .inl (cI, 3, .inl zs)), (mC, .inl (cI, 3, .inl sc)), (mL, .inl (cI, 3, .inl li)), (mQ, .inl (cL, 243, .inr (.inl (vp_updL sq2 (81 * ax + k) (lN (qz zs sc li ax k)))))), (mT, .inl (cL, 243, .inr (.inl (ins so2 (81 * ax + mi_p (fun j => so2 (81 * ax + j)) (lN (qz zs sc li ax k)) k) (81 * ax + k) (lN (qz zs sc li ax k))))))] H := by rw [← e9]; exact hP
                    have hD : va_D A [(aM, .inr (3, [.int th0, .ref mS, .ref mC, .ref mL, .ref mK, .int kn, .ref mQ, .ref mT, .ref mD, .ref mA, .ref mB, .ref mG])), (mS, .inl (cI, 3, .inl zs)), (mC, .inl (cI, 3, .inl sc)), (mL, .inl (cI, 3, .inl li)), (mQ, .inl (cL, 243, .inr (.inl (vp_updL sq2 (81 * ax + k) (lN (qz zs sc li ax k)))))), (mT, .inl (cL, 243, .inr (.inl (ins so2 (81 * ax + mi_p (fun j => so2 (81 * ax + j)) (lN (qz zs sc li ax k)) k) (81 * ax + k) (lN (qz zs sc li ax k))))))] := by rw [← e9]; exact hD
                    exact ihb (k + 1) _ _ (by omega) (by omega) (PA_keep2 hp2) (PA_step (hax ax a5) k5 hp3) _ _ hP hD hS ls (lv_sub hl [0, 3, 4] rfl)
                  · skip
                    obtain ⟨j, rfl⟩ : ∃ j, k2 = j + 1 := ⟨k2 - 1, by have : k2 ≠ 0 := fun q => c_42 (by rw [q]; decide); omega⟩
                    have hP : va_P (dC, dI) vwCl [(aM, .inr (3, [.int th0, .ref mS, .ref mC, .ref mL, .ref mK, .int kn, .ref mQ, .ref mT, .ref mD, .ref mA, .ref mB, .ref mG])), (mS, .inl (cI, 3, .inl zs)), (mC, .inl (cI, 3, .inl sc)), (mL, .inl (cI, 3, .inl li)), (mQ, .inl (cL, 243, .inr (.inl (vp_updL sq2 (81 * ax + k) (lN (qz zs sc li ax k)))))), (mT, .inl (cL, 243, .inr (.inl (sf so2 (81 * ax + j + 1) (81 * ax + k)))))] H := hP
                    have hD : va_D A [(aM, .inr (3, [.int th0, .ref mS, .ref mC, .ref mL, .ref mK, .int kn, .ref mQ, .ref mT, .ref mD, .ref mA, .ref mB, .ref mG])), (mS, .inl (cI, 3, .inl zs)), (mC, .inl (cI, 3, .inl sc)), (mL, .inl (cI, 3, .inl li)), (mQ, .inl (cL, 243, .inr (.inl (vp_updL sq2 (81 * ax + k) (lN (qz zs sc li ax k)))))), (mT, .inl (cL, 243, .inr (.inl (sf so2 (81 * ax + j + 1) (81 * ax + k)))))] := hD
                    refine lv_aload_n hx hb d_M_prepare_45 rfl (lv_at hl 4 rfl) ?_
                    refine va_get (D := (dC, dI)) (ci := 3) (v := .ref mT) (C := "RoomEchoesModel") (T := FT_M) (N := 12) hx hb hts (hi_ in_M) hown hK hP 0 rfl rfl 7 (by decide) (ht_ hts mw431) (fun _ h9 => h9) rfl d_M_prepare_46 ?_
                    refine lv_bipush (v := 81) hx hb d_M_prepare_49 (by decide) ?_
                    refine lv_iload_n hx hb d_M_prepare_51 rfl (lv_at hl 3 rfl) ?_
                    refine lv_imul hx hb d_M_prepare_52 ?_
                    refine tp_i (nI (81 * ax)) (pk_mul 81 ax) ?_
                    refine lv_iload hx hb d_M_prepare_53 (lv_at hl 0 rfl) ?_
                    refine lv_iadd hx hb d_M_prepare_55 ?_
                    refine tp_i (nI (81 * ax + j + 1)) (nI_add (81 * ax) (j + 1)) ?_
                    refine lv_iconst (v := 1) hx hb d_M_prepare_56 (by decide) ?_
                    refine lv_isub hx hb d_M_prepare_57 ?_
                    refine tp_i (nI (81 * ax + j)) (nI_pred (81 * ax + j)) ?_
                    refine va_lald hx hb hK hP 5 1 rfl rfl (vp_in_nI (by omega) (by omega)) d_M_prepare_58 ?_
                    refine tp_l ((sf so2 (81 * ax + j + 1) (81 * ax + k)) (81 * ax + j)) (by rw [nI_clamp (by omega)]) ?_
                    refine tp_l (so2 (81 * ax + j)) (sf_lo so2 (81 * ax + j) (81 * ax + k)) ?_
                    refine lv_lload_n hx hb d_M_prepare_59 rfl (lv_at hl 1 rfl) ?_
                    refine W.lcmp hx hb d_M_prepare_60 ?_
                    refine lv_if_le (tgt := 96) hx hb d_M_prepare_61 (by decide) (fun c_61 => ?_) (fun c_61 => ?_)
                    · rw [lg_cmp_le] at c_61
                      refine lv_aload_n hx hb d_M_prepare_96 rfl (lv_at hl 4 rfl) ?_
                      refine va_get (D := (dC, dI)) (ci := 3) (v := .ref mT) (C := "RoomEchoesModel") (T := FT_M) (N := 12) hx hb hts (hi_ in_M) hown hK hP 0 rfl rfl 7 (by decide) (ht_ hts mw431) (fun _ h9 => h9) rfl d_M_prepare_97 ?_
                      refine lv_bipush (v := 81) hx hb d_M_prepare_100 (by decide) ?_
                      refine lv_iload_n hx hb d_M_prepare_102 rfl (lv_at hl 3 rfl) ?_
                      refine lv_imul hx hb d_M_prepare_103 ?_
                      refine tp_i (nI (81 * ax)) (pk_mul 81 ax) ?_
                      refine lv_iload hx hb d_M_prepare_104 (lv_at hl 0 rfl) ?_
                      refine lv_iadd hx hb d_M_prepare_106 ?_
                      refine tp_i (nI (81 * ax + j + 1)) (nI_add (81 * ax) (j + 1)) ?_
                      refine lv_lload_n hx hb d_M_prepare_107 rfl (lv_at hl 1 rfl) ?_
                      refine va_last hx hb hK hP hD hS 5 1 rfl rfl (vp_in_nI (by omega) (by omega)) d_M_prepare_108 (fun H locs hP hD hS => ?_)
                      rw [nI_clamp (n := (81 * ax + j + 1)) (by omega)] at hP hD
                      have hP : va_P (dC, dI) vwCl [(aM, .inr (3, [.int th0, .ref mS, .ref mC, .ref mL, .ref mK, .int kn, .ref mQ, .ref mT, .ref mD, .ref mA, .ref mB, .ref mG])), (mS, .inl (cI, 3, .inl zs)), (mC, .inl (cI, 3, .inl sc)), (mL, .inl (cI, 3, .inl li)), (mQ, .inl (cL, 243, .inr (.inl (vp_updL sq2 (81 * ax + k) (lN (qz zs sc li ax k)))))), (mT, .inl (cL, 243, .inr (.inl (vp_updL (sf so2 (81 * ax + j + 1) (81 * ax + k)) (81 * ax + j + 1) (lN (qz zs sc li ax k))))))] H := hP
                      have hD : va_D A [(aM, .inr (3, [.int th0, .ref mS, .ref mC, .ref mL, .ref mK, .int kn, .ref mQ, .ref mT, .ref mD, .ref mA, .ref mB, .ref mG])), (mS, .inl (cI, 3, .inl zs)), (mC, .inl (cI, 3, .inl sc)), (mL, .inl (cI, 3, .inl li)), (mQ, .inl (cL, 243, .inr (.inl (vp_updL sq2 (81 * ax + k) (lN (qz zs sc li ax k)))))), (mT, .inl (cL, 243, .inr (.inl (vp_updL (sf so2 (81 * ax + j + 1) (81 * ax + k)) (81 * ax + j + 1) (lN (qz zs sc li ax k))))))] := hD
                      refine lv_iinc (v := nI (k + 1)) (lv' := [(2, .int (nI (k + 1))), (5, .int (nI (j + 1))), (3, .long (lN (qz zs sc li ax k))), (1, .int (nI ax)), (0, .ref aM)]) hx hb d_M_prepare_109 hl (k := 2) rfl (nI_succ _).symm (by decide) rfl (fun ls hl => ?_)
                      refine lv_goto (tgt := 9) hx hb d_M_prepare_112 (by decide) ?_
                      have e9 : j + 1 = mi_p (fun j => so2 (81 * ax + j)) (lN (qz zs sc li ax k)) k := by rw [← hj]; exact (if_pos c_61).symm
                      have hP : va_P (dC, dI) vwCl [(aM, .inr (3, [.int th0, .ref mS, .ref mC, .ref mL, .ref mK, .int kn, .ref mQ, .ref mT, .ref mD, .ref mA, .ref mB, .ref mG])), (mS, .inl (cI, 3, .inl zs)), (mC, .inl (cI, 3, .inl sc)), (mL, .inl (cI, 3, .inl li)), (mQ, .inl (cL, 243, .inr (.inl (vp_updL sq2 (81 * ax + k) (lN (qz zs sc li ax k)))))), (mT, .inl (cL, 243, .inr (.inl (ins so2 (81 * ax + mi_p (fun j => so2 (81 * ax + j)) (lN (qz zs sc li ax k)) k) (81 * ax + k) (lN (qz zs sc li ax k))))))] H := by rw [← e9]; exact hP
                      have hD : va_D A [(aM, .inr (3, [.int th0, .ref mS, .ref mC, .ref mL, .ref mK, .int kn, .ref mQ, .ref mT, .ref mD, .ref mA, .ref mB, .ref mG])), (mS, .inl (cI, 3, .inl zs)), (mC, .inl (cI, 3, .inl sc)), (mL, .inl (cI, 3, .inl li)), (mQ, .inl (cL, 243, .inr (.inl (vp_updL sq2 (81 * ax + k) (lN (qz zs sc li ax k)))))), (mT, .inl (cL, 243, .inr (.inl (ins so2 (81 * ax + mi_p (fun j => so2 (81 * ax + j)) (lN (qz zs sc li ax k)) k) (81 * ax + k) (lN (qz zs sc li ax k))))))] := by rw [← e9]; exact hD
                      exact ihb (k + 1) _ _ (by omega) (by omega) (PA_keep2 hp2) (PA_step (hax ax a5) k5 hp3) _ _ hP hD hS ls (lv_sub hl [0, 3, 4] rfl)
                    · rw [lg_cmp_le] at c_61
                      refine lv_aload_n hx hb d_M_prepare_64 rfl (lv_at hl 4 rfl) ?_
                      refine va_get (D := (dC, dI)) (ci := 3) (v := .ref mT) (C := "RoomEchoesModel") (T := FT_M) (N := 12) hx hb hts (hi_ in_M) hown hK hP 0 rfl rfl 7 (by decide) (ht_ hts mw431) (fun _ h9 => h9) rfl d_M_prepare_65 ?_
                      refine lv_bipush (v := 81) hx hb d_M_prepare_68 (by decide) ?_
                      refine lv_iload_n hx hb d_M_prepare_70 rfl (lv_at hl 3 rfl) ?_
                      refine lv_imul hx hb d_M_prepare_71 ?_
                      refine tp_i (nI (81 * ax)) (pk_mul 81 ax) ?_
                      refine lv_iload hx hb d_M_prepare_72 (lv_at hl 0 rfl) ?_
                      refine lv_iadd hx hb d_M_prepare_74 ?_
                      refine tp_i (nI (81 * ax + j + 1)) (nI_add (81 * ax) (j + 1)) ?_
                      refine lv_aload_n hx hb d_M_prepare_75 rfl (lv_at hl 4 rfl) ?_
                      refine va_get (D := (dC, dI)) (ci := 3) (v := .ref mT) (C := "RoomEchoesModel") (T := FT_M) (N := 12) hx hb hts (hi_ in_M) hown hK hP 0 rfl rfl 7 (by decide) (ht_ hts mw431) (fun _ h9 => h9) rfl d_M_prepare_76 ?_
                      refine lv_bipush (v := 81) hx hb d_M_prepare_79 (by decide) ?_
                      refine lv_iload_n hx hb d_M_prepare_81 rfl (lv_at hl 3 rfl) ?_
                      refine lv_imul hx hb d_M_prepare_82 ?_
                      refine tp_i (nI (81 * ax)) (pk_mul 81 ax) ?_
                      refine lv_iload hx hb d_M_prepare_83 (lv_at hl 0 rfl) ?_
                      refine lv_iadd hx hb d_M_prepare_85 ?_
                      refine tp_i (nI (81 * ax + j + 1)) (nI_add (81 * ax) (j + 1)) ?_
                      refine lv_iconst (v := 1) hx hb d_M_prepare_86 (by decide) ?_
                      refine lv_isub hx hb d_M_prepare_87 ?_
                      refine tp_i (nI (81 * ax + j)) (nI_pred (81 * ax + j)) ?_
                      refine va_lald hx hb hK hP 5 1 rfl rfl (vp_in_nI (by omega) (by omega)) d_M_prepare_88 ?_
                      refine tp_l ((sf so2 (81 * ax + j + 1) (81 * ax + k)) (81 * ax + j)) (by rw [nI_clamp (by omega)]) ?_
                      refine va_last hx hb hK hP hD hS 5 1 rfl rfl (vp_in_nI (by omega) (by omega)) d_M_prepare_89 (fun H locs hP hD hS => ?_)
                      rw [nI_clamp (n := (81 * ax + j + 1)) (by omega)] at hP hD
                      have hP : va_P (dC, dI) vwCl [(aM, .inr (3, [.int th0, .ref mS, .ref mC, .ref mL, .ref mK, .int kn, .ref mQ, .ref mT, .ref mD, .ref mA, .ref mB, .ref mG])), (mS, .inl (cI, 3, .inl zs)), (mC, .inl (cI, 3, .inl sc)), (mL, .inl (cI, 3, .inl li)), (mQ, .inl (cL, 243, .inr (.inl (vp_updL sq2 (81 * ax + k) (lN (qz zs sc li ax k)))))), (mT, .inl (cL, 243, .inr (.inl (vp_updL (sf so2 (81 * ax + j + 1) (81 * ax + k)) (81 * ax + j + 1) ((sf so2 (81 * ax + j + 1) (81 * ax + k)) (81 * ax + j))))))] H := hP
                      have hD : va_D A [(aM, .inr (3, [.int th0, .ref mS, .ref mC, .ref mL, .ref mK, .int kn, .ref mQ, .ref mT, .ref mD, .ref mA, .ref mB, .ref mG])), (mS, .inl (cI, 3, .inl zs)), (mC, .inl (cI, 3, .inl sc)), (mL, .inl (cI, 3, .inl li)), (mQ, .inl (cL, 243, .inr (.inl (vp_updL sq2 (81 * ax + k) (lN (qz zs sc li ax k)))))), (mT, .inl (cL, 243, .inr (.inl (vp_updL (sf so2 (81 * ax + j + 1) (81 * ax + k)) (81 * ax + j + 1) ((sf so2 (81 * ax + j + 1) (81 * ax + k)) (81 * ax + j))))))] := hD
                      refine lv_iinc (v := nI j) (lv' := [(5, .int (nI j)), (3, .long (lN (qz zs sc li ax k))), (2, .int (nI k)), (1, .int (nI ax)), (0, .ref aM)]) hx hb d_M_prepare_90 hl (k := 0) rfl (pk_m1 _) (by decide) rfl (fun ls hl => ?_)
                      refine lv_goto (tgt := 40) hx hb d_M_prepare_93 (by decide) ?_
                      have e8 : vp_updL (sf so2 (81 * ax + j + 1) (81 * ax + k)) (81 * ax + j + 1) ((sf so2 (81 * ax + j + 1) (81 * ax + k)) (81 * ax + j)) = sf so2 (81 * ax + j) (81 * ax + k) := sf_stL so2 (by omega)
                      rw [e8] at hP hD
                      exact ihc j (by omega) (by omega) (by rw [← hj]; exact (if_neg c_61).symm) _ _ hP hD hS ls (lv_sub hl [0, 1, 2, 3, 4] rfl)
              exact lpc (k + 1) k (by omega) (Nat.le_refl _) rfl _ _ hP hD hS ls (lv_sub hl [0, 1, 2, 3, 4] rfl)
        exact lpb 82 0 _ _ (by omega) (by omega) hp1 (PA_0 _ _ _ _ _ _) _ _ hP hD hS ls (lv_sub hl [0, 1, 2] rfl)
  exact lpa 4 0 _ _ (by omega) (by omega) (fun a ha => absurd ha (Nat.not_lt_zero a)) _ _ hP hD hS ls (lv_sub hl [0, 1] rfl)
