set_option maxHeartbeats 4000000 in
set_option maxRecDepth 100000 in
theorem c_M_put (l : Launch) (dC : Nat → ClassId) (dI : Nat → Nat → Nat) (cI cL : ClassId) (aM : Nat) (th0 : Int32) (kn : Int32) (mS : Nat) (mC : Nat) (mL : Nat) (mK : Nat) (mQ : Nat) (mT : Nat) (mD : Nat) (mA : Nat) (mB : Nat) (mG : Nat) (ds : Nat → Int64) (as : Nat → Int32) (bs : Nat → Int32) (cs : Nat → Int32) (n : Nat) (d : Int64) (a : Int32) (b : Int32) (c9 : Int32) (sz : Nat) (hn5 : n < 500) : Met l y_M_put w_M_put ({ frames := 0, cells := 0, slots := 0, locals := 0 }) (wr_P (dC, dI) cI cL [(aM, .inr (3, [.int th0, .ref mS, .ref mC, .ref mL, .ref mK, .int kn, .ref mQ, .ref mT, .ref mD, .ref mA, .ref mB, .ref mG])), (mD, .inl (cL, 500, .inr (.inl ds))), (mA, .inl (cI, 500, .inl as)), (mB, .inl (cI, 500, .inl bs)), (mG, .inl (cI, 500, .inl cs))] sz [.ref aM, .int (nI n), .long d, .int a, .int b, .int c9]) (wr_v (dC, dI) (va_A [(aM, .inr (3, [.int th0, .ref mS, .ref mC, .ref mL, .ref mK, .int kn, .ref mQ, .ref mT, .ref mD, .ref mA, .ref mB, .ref mG])), (mD, .inl (cL, 500, .inr (.inl ds))), (mA, .inl (cI, 500, .inl as)), (mB, .inl (cI, 500, .inl bs)), (mG, .inl (cI, 500, .inl cs))] sz) [(aM, .inr (3, [.int th0, .ref mS, .ref mC, .ref mL, .ref mK, .int kn, .ref mQ, .ref mT, .ref mD, .ref mA, .ref mB, .ref mG])), (mD, .inl (cL, 500, .inr (.inl (ins ds (mi_p ds d n) n d)))), (mA, .inl (cI, 500, .inl (ins as (mi_p ds d n) n a))), (mB, .inl (cI, 500, .inl (ins bs (mi_p ds d n) n b))), (mG, .inl (cI, 500, .inl (ins cs (mi_p ds d n) n c9)))]) 0 0 (va_A [(aM, .inr (3, [.int th0, .ref mS, .ref mC, .ref mL, .ref mK, .int kn, .ref mQ, .ref mT, .ref mD, .ref mA, .ref mB, .ref mG])), (mD, .inl (cL, 500, .inr (.inl ds))), (mA, .inl (cI, 500, .inl as)), (mB, .inl (cI, 500, .inl bs)), (mG, .inl (cI, 500, .inl cs))] sz) := by
  refine Met.ofW (cc := b_M_put) (maxL := 8) (ret := none) (by decide) rfl ?_
  intro p e s m args below meth c s₁ B hml hv
  obtain ⟨rfl, hsz, hP, hM, hD0⟩ := hv
  have hx := B.exec
  have hb := B.bytes
  have hr := B.returns
  have hts := atoms_spec (ws := w_M_put) B.pre
  have hown : s.vm.findClass "RoomEchoesModel" = some m.cls := findClass_of_methodNamed B.named
  have hlocks := B.notSynchronized
  have hK := hM.1
  subst hsz
  have hD := hD0.self (sz := s.heap.size)
  generalize hAe : va_A [(aM, .inr (3, [.int th0, .ref mS, .ref mC, .ref mL, .ref mK, .int kn, .ref mQ, .ref mT, .ref mD, .ref mA, .ref mB, .ref mG])), (mD, .inl (cL, 500, .inr (.inl ds))), (mA, .inl (cI, 500, .inl as)), (mB, .inl (cI, 500, .inl bs)), (mG, .inl (cI, 500, .inl cs))] s.heap.size = A at hD ⊢
  have hA : ∀ q : Nat, s.heap.size ≤ q → A q := fun q h => by rw [← hAe]; exact Or.inr h
  have hS : va_S A s.heap s.heap [] := va_S.rf
  have hP : va_P (dC, dI) vwCl [(aM, .inr (3, [.int th0, .ref mS, .ref mC, .ref mL, .ref mK, .int kn, .ref mQ, .ref mT, .ref mD, .ref mA, .ref mB, .ref mG])), (mD, .inl (cL, 500, .inr (.inl ds))), (mA, .inl (cI, 500, .inl as)), (mB, .inl (cI, 500, .inl bs)), (mG, .inl (cI, 500, .inl cs))] s.heap := hP
  have hl := lv_entry ([.ref aM, .int (nI n), .long d, .int a, .int b, .int c9]) (n := 8) (Nat.le_of_ble_eq_true rfl)
  rw [lg_entry_eq]
  generalize (lg_sl ([.ref aM, .int (nI n), .long d, .int a, .int b, .int c9]) ++ List.replicate (8 - (lg_sl ([.ref aM, .int (nI n), .long d, .int a, .int b, .int c9])).length) Slot.unset).toArray = ls at hl ⊢
  have hl : lv_has ls 8 [(0, .ref aM), (1, .int (nI n)), (2, .long d), (4, .int a), (5, .int b), (6, .int c9)] := hl
  refine lv_iload_n hx hb d_M_put_0 rfl (lv_at hl 1 rfl) ?_
  refine lv_istore (lv' := [(7, .int (nI n)), (0, .ref aM), (1, .int (nI n)), (2, .long d), (4, .int a), (5, .int b), (6, .int c9)]) hx hb d_M_put_1 hl (by decide) rfl (fun ls hl => ?_)
  have hP : va_P (dC, dI) vwCl [(aM, .inr (3, [.int th0, .ref mS, .ref mC, .ref mL, .ref mK, .int kn, .ref mQ, .ref mT, .ref mD, .ref mA, .ref mB, .ref mG])), (mD, .inl (cL, 500, .inr (.inl (sf ds n n)))), (mA, .inl (cI, 500, .inl (sf as n n))), (mB, .inl (cI, 500, .inl (sf bs n n))), (mG, .inl (cI, 500, .inl (sf cs n n)))] s.heap := by rw [sf_n, sf_n, sf_n, sf_n]; exact hP
  have hD : va_D A [(aM, .inr (3, [.int th0, .ref mS, .ref mC, .ref mL, .ref mK, .int kn, .ref mQ, .ref mT, .ref mD, .ref mA, .ref mB, .ref mG])), (mD, .inl (cL, 500, .inr (.inl (sf ds n n)))), (mA, .inl (cI, 500, .inl (sf as n n))), (mB, .inl (cI, 500, .inl (sf bs n n))), (mG, .inl (cI, 500, .inl (sf cs n n)))] := by rw [sf_n, sf_n, sf_n, sf_n]; exact hD
  have lp : ∀ (n9 : Nat) (k : Nat), k < n9 → k ≤ n → mi_p ds d k = mi_p ds d n → ∀ (H : Heap) (locs : List Loc), va_P (dC, dI) vwCl [(aM, .inr (3, [.int th0, .ref mS, .ref mC, .ref mL, .ref mK, .int kn, .ref mQ, .ref mT, .ref mD, .ref mA, .ref mB, .ref mG])), (mD, .inl (cL, 500, .inr (.inl (sf ds k n)))), (mA, .inl (cI, 500, .inl (sf as k n))), (mB, .inl (cI, 500, .inl (sf bs k n))), (mG, .inl (cI, 500, .inl (sf cs k n)))] H → va_D A [(aM, .inr (3, [.int th0, .ref mS, .ref mC, .ref mL, .ref mK, .int kn, .ref mQ, .ref mT, .ref mD, .ref mA, .ref mB, .ref mG])), (mD, .inl (cL, 500, .inr (.inl (sf ds k n)))), (mA, .inl (cI, 500, .inl (sf as k n))), (mB, .inl (cI, 500, .inl (sf bs k n))), (mG, .inl (cI, 500, .inl (sf cs k n)))] → va_S A s.heap H locs → ∀ (ls : Array Slot), lv_has ls 8 [(7, .int (nI k)), (0, .ref aM), (1, .int (nI n)), (2, .long d), (4, .int a), (5, .int b), (6, .int c9)] → W p l e (headSpec w_M_put ({ frames := 0, cells := 0, slots := 0, locals := 0 })).room s m ([.ref aM, .int (nI n), .long d, .int a, .int b, .int c9] : List Value).toArray below meth c H locs 0 0 (MQ below (wr_v (dC, dI) A [(aM, .inr (3, [.int th0, .ref mS, .ref mC, .ref mL, .ref mK, .int kn, .ref mQ, .ref mT, .ref mD, .ref mA, .ref mB, .ref mG])), (mD, .inl (cL, 500, .inr (.inl (ins ds (mi_p ds d n) n d)))), (mA, .inl (cI, 500, .inl (ins as (mi_p ds d n) n a))), (mB, .inl (cI, 500, .inl (ins bs (mi_p ds d n) n b))), (mG, .inl (cI, 500, .inl (ins cs (mi_p ds d n) n c9)))]) ([.ref aM, .int (nI n), .long d, .int a, .int b, .int c9] : List Value).toArray s 0 0 A) (F0 m 3 ls []) := by
    intro n9
    induction n9 with
    | zero => intro k hn hk hj H locs hP hD hS ls hl; omega
    | succ n9 ih =>
      intro k hn hk hj H locs hP hD hS ls hl
      refine lv_iload hx hb d_M_put_3 (lv_at hl 0 rfl) ?_
      refine lv_if_le (tgt := 92) hx hb d_M_put_5 (by decide) (fun c_5 => ?_) (fun c_5 => ?_)
      · skip
        refine lv_aload_n hx hb d_M_put_92 rfl (lv_at hl 1 rfl) ?_
        refine va_get (D := (dC, dI)) (ci := 3) (v := .ref mD) (C := "RoomEchoesModel") (T := FT_M) (N := 12) hx hb hts (hi_ in_M) hown hK hP 0 rfl rfl 8 (by decide) (ht_ hts mw432) (fun _ h9 => h9) rfl d_M_put_93 ?_
        refine lv_iload hx hb d_M_put_96 (lv_at hl 0 rfl) ?_
        refine lv_lload_n hx hb d_M_put_98 rfl (lv_at hl 3 rfl) ?_
        refine va_last hx hb hK hP hD hS 1 1 rfl rfl (vp_in_nI (by omega) (by omega)) d_M_put_99 (fun H locs hP hD hS => ?_)
        rw [nI_clamp (n := k) (by omega)] at hP hD
        have hP : va_P (dC, dI) vwCl [(aM, .inr (3, [.int th0, .ref mS, .ref mC, .ref mL, .ref mK, .int kn, .ref mQ, .ref mT, .ref mD, .ref mA, .ref mB, .ref mG])), (mD, .inl (cL, 500, .inr (.inl (vp_updL (sf ds k n) k d)))), (mA, .inl (cI, 500, .inl (sf as k n))), (mB, .inl (cI, 500, .inl (sf bs k n))), (mG, .inl (cI, 500, .inl (sf cs k n)))] H := hP
        have hD : va_D A [(aM, .inr (3, [.int th0, .ref mS, .ref mC, .ref mL, .ref mK, .int kn, .ref mQ, .ref mT, .ref mD, .ref mA, .ref mB, .ref mG])), (mD, .inl (cL, 500, .inr (.inl (vp_updL (sf ds k n) k d)))), (mA, .inl (cI, 500, .inl (sf as k n))), (mB, .inl (cI, 500, .inl (sf bs k n))), (mG, .inl (cI, 500, .inl (sf cs k n)))] := hD
        refine lv_aload_n hx hb d_M_put_100 rfl (lv_at hl 1 rfl) ?_
        refine va_get (D := (dC, dI)) (ci := 3) (v := .ref mA) (C := "RoomEchoesModel") (T := FT_M) (N := 12) hx hb hts (hi_ in_M) hown hK hP 0 rfl rfl 9 (by decide) (ht_ hts mw433) (fun _ h9 => h9) rfl d_M_put_101 ?_
        refine lv_iload hx hb d_M_put_104 (lv_at hl 0 rfl) ?_
        refine lv_iload hx hb d_M_put_106 (lv_at hl 4 rfl) ?_
        refine va_iast hx hb hK hP hD hS 2 0 rfl rfl (vp_in_nI (by omega) (by omega)) d_M_put_108 (fun H locs hP hD hS => ?_)
        rw [nI_clamp (n := k) (by omega)] at hP hD
        have hP : va_P (dC, dI) vwCl [(aM, .inr (3, [.int th0, .ref mS, .ref mC, .ref mL, .ref mK, .int kn, .ref mQ, .ref mT, .ref mD, .ref mA, .ref mB, .ref mG])), (mD, .inl (cL, 500, .inr (.inl (vp_updL (sf ds k n) k d)))), (mA, .inl (cI, 500, .inl (upd (sf as k n) k a))), (mB, .inl (cI, 500, .inl (sf bs k n))), (mG, .inl (cI, 500, .inl (sf cs k n)))] H := hP
        have hD : va_D A [(aM, .inr (3, [.int th0, .ref mS, .ref mC, .ref mL, .ref mK, .int kn, .ref mQ, .ref mT, .ref mD, .ref mA, .ref mB, .ref mG])), (mD, .inl (cL, 500, .inr (.inl (vp_updL (sf ds k n) k d)))), (mA, .inl (cI, 500, .inl (upd (sf as k n) k a))), (mB, .inl (cI, 500, .inl (sf bs k n))), (mG, .inl (cI, 500, .inl (sf cs k n)))] := hD
        refine lv_aload_n hx hb d_M_put_109 rfl (lv_at hl 1 rfl) ?_
        refine va_get (D := (dC, dI)) (ci := 3) (v := .ref mB) (C := "RoomEchoesModel") (T := FT_M) (N := 12) hx hb hts (hi_ in_M) hown hK hP 0 rfl rfl 10 (by decide) (ht_ hts mw434) (fun _ h9 => h9) rfl d_M_put_110 ?_
        refine lv_iload hx hb d_M_put_113 (lv_at hl 0 rfl) ?_
        refine lv_iload hx hb d_M_put_115 (lv_at hl 5 rfl) ?_
        refine va_iast hx hb hK hP hD hS 3 0 rfl rfl (vp_in_nI (by omega) (by omega)) d_M_put_117 (fun H locs hP hD hS => ?_)
        rw [nI_clamp (n := k) (by omega)] at hP hD
        have hP : va_P (dC, dI) vwCl [(aM, .inr (3, [.int th0, .ref mS, .ref mC, .ref mL, .ref mK, .int kn, .ref mQ, .ref mT, .ref mD, .ref mA, .ref mB, .ref mG])), (mD, .inl (cL, 500, .inr (.inl (vp_updL (sf ds k n) k d)))), (mA, .inl (cI, 500, .inl (upd (sf as k n) k a))), (mB, .inl (cI, 500, .inl (upd (sf bs k n) k b))), (mG, .inl (cI, 500, .inl (sf cs k n)))] H := hP
        have hD : va_D A [(aM, .inr (3, [.int th0, .ref mS, .ref mC, .ref mL, .ref mK, .int kn, .ref mQ, .ref mT, .ref mD, .ref mA, .ref mB, .ref mG])), (mD, .inl (cL, 500, .inr (.inl (vp_updL (sf ds k n) k d)))), (mA, .inl (cI, 500, .inl (upd (sf as k n) k a))), (mB, .inl (cI, 500, .inl (upd (sf bs k n) k b))), (mG, .inl (cI, 500, .inl (sf cs k n)))] := hD
        refine lv_aload_n hx hb d_M_put_118 rfl (lv_at hl 1 rfl) ?_
        refine va_get (D := (dC, dI)) (ci := 3) (v := .ref mG) (C := "RoomEchoesModel") (T := FT_M) (N := 12) hx hb hts (hi_ in_M) hown hK hP 0 rfl rfl 11 (by decide) (ht_ hts mw435) (fun _ h9 => h9) rfl d_M_put_119 ?_
        refine lv_iload hx hb d_M_put_122 (lv_at hl 0 rfl) ?_
        refine lv_iload hx hb d_M_put_124 (lv_at hl 6 rfl) ?_
        refine va_iast hx hb hK hP hD hS 4 0 rfl rfl (vp_in_nI (by omega) (by omega)) d_M_put_126 (fun H locs hP hD hS => ?_)
        rw [nI_clamp (n := k) (by omega)] at hP hD
        have hP : va_P (dC, dI) vwCl [(aM, .inr (3, [.int th0, .ref mS, .ref mC, .ref mL, .ref mK, .int kn, .ref mQ, .ref mT, .ref mD, .ref mA, .ref mB, .ref mG])), (mD, .inl (cL, 500, .inr (.inl (vp_updL (sf ds k n) k d)))), (mA, .inl (cI, 500, .inl (upd (sf as k n) k a))), (mB, .inl (cI, 500, .inl (upd (sf bs k n) k b))), (mG, .inl (cI, 500, .inl (upd (sf cs k n) k c9)))] H := hP
        have hD : va_D A [(aM, .inr (3, [.int th0, .ref mS, .ref mC, .ref mL, .ref mK, .int kn, .ref mQ, .ref mT, .ref mD, .ref mA, .ref mB, .ref mG])), (mD, .inl (cL, 500, .inr (.inl (vp_updL (sf ds k n) k d)))), (mA, .inl (cI, 500, .inl (upd (sf as k n) k a))), (mB, .inl (cI, 500, .inl (upd (sf bs k n) k b))), (mG, .inl (cI, 500, .inl (upd (sf cs k n) k c9)))] := hD
        have e9 : k = mi_p ds d n := by rw [← hj, show k = 0 by rw [Int32.le_iff_toInt_le, nI_toInt (by omega)] at c_5; have h0 : (0 : Int32).toInt = 0 := rfl; omega]; rfl
        rw [e9] at hP hD
        have hP9 : va_P (dC, dI) vwCl [(aM, .inr (3, [.int th0, .ref mS, .ref mC, .ref mL, .ref mK, .int kn, .ref mQ, .ref mT, .ref mD, .ref mA, .ref mB, .ref mG])), (mD, .inl (cL, 500, .inr (.inl (ins ds (mi_p ds d n) n d)))), (mA, .inl (cI, 500, .inl (ins as (mi_p ds d n) n a))), (mB, .inl (cI, 500, .inl (ins bs (mi_p ds d n) n b))), (mG, .inl (cI, 500, .inl (ins cs (mi_p ds d n) n c9)))] H := hP
        have hD9 : va_D A [(aM, .inr (3, [.int th0, .ref mS, .ref mC, .ref mL, .ref mK, .int kn, .ref mQ, .ref mT, .ref mD, .ref mA, .ref mB, .ref mG])), (mD, .inl (cL, 500, .inr (.inl (ins ds (mi_p ds d n) n d)))), (mA, .inl (cI, 500, .inl (ins as (mi_p ds d n) n a))), (mB, .inl (cI, 500, .inl (ins bs (mi_p ds d n) n b))), (mG, .inl (cI, 500, .inl (ins cs (mi_p ds d n) n c9)))] := hD
        exact W.vret hx hb hr (fun t ht hW => ⟨⟨(), rfl, trivial, by rw [ht]; exact hP9, hD9⟩, hS.F ht⟩) hS.2.2 d_M_put_127
      · skip
        obtain ⟨j, rfl⟩ : ∃ j, k = j + 1 := ⟨k - 1, by have : k ≠ 0 := fun q => c_5 (by rw [q]; decide); omega⟩
        refine lv_aload_n hx hb d_M_put_8 rfl (lv_at hl 1 rfl) ?_
        refine va_get (D := (dC, dI)) (ci := 3) (v := .ref mD) (C := "RoomEchoesModel") (T := FT_M) (N := 12) hx hb hts (hi_ in_M) hown hK hP 0 rfl rfl 8 (by decide) (ht_ hts mw432) (fun _ h9 => h9) rfl d_M_put_9 ?_
        refine lv_iload hx hb d_M_put_12 (lv_at hl 0 rfl) ?_
        refine lv_iconst (v := 1) hx hb d_M_put_14 (by decide) ?_
        refine lv_isub hx hb d_M_put_15 ?_
        refine tp_i (nI j) (nI_pred j) ?_
        refine va_lald hx hb hK hP 1 1 rfl rfl (vp_in_nI (by omega) (by omega)) d_M_put_16 ?_
        refine tp_l ((sf ds (j + 1) n) j) (by rw [nI_clamp (by omega)]) ?_
        refine tp_l (ds j) (sf_lo ds j n) ?_
        refine lv_lload_n hx hb d_M_put_17 rfl (lv_at hl 3 rfl) ?_
        refine W.lcmp hx hb d_M_put_18 ?_
        refine lv_if_le (tgt := 92) hx hb d_M_put_19 (by decide) (fun c_19 => ?_) (fun c_19 => ?_)
        · rw [lg_cmp_le] at c_19
          refine lv_aload_n hx hb d_M_put_92 rfl (lv_at hl 1 rfl) ?_
          refine va_get (D := (dC, dI)) (ci := 3) (v := .ref mD) (C := "RoomEchoesModel") (T := FT_M) (N := 12) hx hb hts (hi_ in_M) hown hK hP 0 rfl rfl 8 (by decide) (ht_ hts mw432) (fun _ h9 => h9) rfl d_M_put_93 ?_
          refine lv_iload hx hb d_M_put_96 (lv_at hl 0 rfl) ?_
          refine lv_lload_n hx hb d_M_put_98 rfl (lv_at hl 3 rfl) ?_
          refine va_last hx hb hK hP hD hS 1 1 rfl rfl (vp_in_nI (by omega) (by omega)) d_M_put_99 (fun H locs hP hD hS => ?_)
          rw [nI_clamp (n := (j + 1)) (by omega)] at hP hD
          have hP : va_P (dC, dI) vwCl [(aM, .inr (3, [.int th0, .ref mS, .ref mC, .ref mL, .ref mK, .int kn, .ref mQ, .ref mT, .ref mD, .ref mA, .ref mB, .ref mG])), (mD, .inl (cL, 500, .inr (.inl (vp_updL (sf ds (j + 1) n) (j + 1) d)))), (mA, .inl (cI, 500, .inl (sf as (j + 1) n))), (mB, .inl (cI, 500, .inl (sf bs (j + 1) n))), (mG, .inl (cI, 500, .inl (sf cs (j + 1) n)))] H := hP
          have hD : va_D A [(aM, .inr (3, [.int th0, .ref mS, .ref mC, .ref mL, .ref mK, .int kn, .ref mQ, .ref mT, .ref mD, .ref mA, .ref mB, .ref mG])), (mD, .inl (cL, 500, .inr (.inl (vp_updL (sf ds (j + 1) n) (j + 1) d)))), (mA, .inl (cI, 500, .inl (sf as (j + 1) n))), (mB, .inl (cI, 500, .inl (sf bs (j + 1) n))), (mG, .inl (cI, 500, .inl (sf cs (j + 1) n)))] := hD
          refine lv_aload_n hx hb d_M_put_100 rfl (lv_at hl 1 rfl) ?_
          refine va_get (D := (dC, dI)) (ci := 3) (v := .ref mA) (C := "RoomEchoesModel") (T := FT_M) (N := 12) hx hb hts (hi_ in_M) hown hK hP 0 rfl rfl 9 (by decide) (ht_ hts mw433) (fun _ h9 => h9) rfl d_M_put_101 ?_
          refine lv_iload hx hb d_M_put_104 (lv_at hl 0 rfl) ?_
          refine lv_iload hx hb d_M_put_106 (lv_at hl 4 rfl) ?_
          refine va_iast hx hb hK hP hD hS 2 0 rfl rfl (vp_in_nI (by omega) (by omega)) d_M_put_108 (fun H locs hP hD hS => ?_)
          rw [nI_clamp (n := (j + 1)) (by omega)] at hP hD
          have hP : va_P (dC, dI) vwCl [(aM, .inr (3, [.int th0, .ref mS, .ref mC, .ref mL, .ref mK, .int kn, .ref mQ, .ref mT, .ref mD, .ref mA, .ref mB, .ref mG])), (mD, .inl (cL, 500, .inr (.inl (vp_updL (sf ds (j + 1) n) (j + 1) d)))), (mA, .inl (cI, 500, .inl (upd (sf as (j + 1) n) (j + 1) a))), (mB, .inl (cI, 500, .inl (sf bs (j + 1) n))), (mG, .inl (cI, 500, .inl (sf cs (j + 1) n)))] H := hP
          have hD : va_D A [(aM, .inr (3, [.int th0, .ref mS, .ref mC, .ref mL, .ref mK, .int kn, .ref mQ, .ref mT, .ref mD, .ref mA, .ref mB, .ref mG])), (mD, .inl (cL, 500, .inr (.inl (vp_updL (sf ds (j + 1) n) (j + 1) d)))), (mA, .inl (cI, 500, .inl (upd (sf as (j + 1) n) (j + 1) a))), (mB, .inl (cI, 500, .inl (sf bs (j + 1) n))), (mG, .inl (cI, 500, .inl (sf cs (j + 1) n)))] := hD
          refine lv_aload_n hx hb d_M_put_109 rfl (lv_at hl 1 rfl) ?_
          refine va_get (D := (dC, dI)) (ci := 3) (v := .ref mB) (C := "RoomEchoesModel") (T := FT_M) (N := 12) hx hb hts (hi_ in_M) hown hK hP 0 rfl rfl 10 (by decide) (ht_ hts mw434) (fun _ h9 => h9) rfl d_M_put_110 ?_
          refine lv_iload hx hb d_M_put_113 (lv_at hl 0 rfl) ?_
          refine lv_iload hx hb d_M_put_115 (lv_at hl 5 rfl) ?_
          refine va_iast hx hb hK hP hD hS 3 0 rfl rfl (vp_in_nI (by omega) (by omega)) d_M_put_117 (fun H locs hP hD hS => ?_)
          rw [nI_clamp (n := (j + 1)) (by omega)] at hP hD
          have hP : va_P (dC, dI) vwCl [(aM, .inr (3, [.int th0, .ref mS, .ref mC, .ref mL, .ref mK, .int kn, .ref mQ, .ref mT, .ref mD, .ref mA, .ref mB, .ref mG])), (mD, .inl (cL, 500, .inr (.inl (vp_updL (sf ds (j + 1) n) (j + 1) d)))), (mA, .inl (cI, 500, .inl (upd (sf as (j + 1) n) (j + 1) a))), (mB, .inl (cI, 500, .inl (upd (sf bs (j + 1) n) (j + 1) b))), (mG, .inl (cI, 500, .inl (sf cs (j + 1) n)))] H := hP
          have hD : va_D A [(aM, .inr (3, [.int th0, .ref mS, .ref mC, .ref mL, .ref mK, .int kn, .ref mQ, .ref mT, .ref mD, .ref mA, .ref mB, .ref mG])), (mD, .inl (cL, 500, .inr (.inl (vp_updL (sf ds (j + 1) n) (j + 1) d)))), (mA, .inl (cI, 500, .inl (upd (sf as (j + 1) n) (j + 1) a))), (mB, .inl (cI, 500, .inl (upd (sf bs (j + 1) n) (j + 1) b))), (mG, .inl (cI, 500, .inl (sf cs (j + 1) n)))] := hD
          refine lv_aload_n hx hb d_M_put_118 rfl (lv_at hl 1 rfl) ?_
          refine va_get (D := (dC, dI)) (ci := 3) (v := .ref mG) (C := "RoomEchoesModel") (T := FT_M) (N := 12) hx hb hts (hi_ in_M) hown hK hP 0 rfl rfl 11 (by decide) (ht_ hts mw435) (fun _ h9 => h9) rfl d_M_put_119 ?_
          refine lv_iload hx hb d_M_put_122 (lv_at hl 0 rfl) ?_
          refine lv_iload hx hb d_M_put_124 (lv_at hl 6 rfl) ?_
          refine va_iast hx hb hK hP hD hS 4 0 rfl rfl (vp_in_nI (by omega) (by omega)) d_M_put_126 (fun H locs hP hD hS => ?_)
          rw [nI_clamp (n := (j + 1)) (by omega)] at hP hD
          have hP : va_P (dC, dI) vwCl [(aM, .inr (3, [.int th0, .ref mS, .ref mC, .ref mL, .ref mK, .int kn, .ref mQ, .ref mT, .ref mD, .ref mA, .ref mB, .ref mG])), (mD, .inl (cL, 500, .inr (.inl (vp_updL (sf ds (j + 1) n) (j + 1) d)))), (mA, .inl (cI, 500, .inl (upd (sf as (j + 1) n) (j + 1) a))), (mB, .inl (cI, 500, .inl (upd (sf bs (j + 1) n) (j + 1) b))), (mG, .inl (cI, 500, .inl (upd (sf cs (j + 1) n) (j + 1) c9)))] H := hP
          have hD : va_D A [(aM, .inr (3, [.int th0, .ref mS, .ref mC, .ref mL, .ref mK, .int kn, .ref mQ, .ref mT, .ref mD, .ref mA, .ref mB, .ref mG])), (mD, .inl (cL, 500, .inr (.inl (vp_updL (sf ds (j + 1) n) (j + 1) d)))), (mA, .inl (cI, 500, .inl (upd (sf as (j + 1) n) (j + 1) a))), (mB, .inl (cI, 500, .inl (upd (sf bs (j + 1) n) (j + 1) b))), (mG, .inl (cI, 500, .inl (upd (sf cs (j + 1) n) (j + 1) c9)))] := hD
          have e9 : j + 1 = mi_p ds d n := by rw [← hj]; exact (if_pos c_19).symm
          rw [e9] at hP hD
          have hP9 : va_P (dC, dI) vwCl [(aM, .inr (3, [.int th0, .ref mS, .ref mC, .ref mL, .ref mK, .int kn, .ref mQ, .ref mT, .ref mD, .ref mA, .ref mB, .ref mG])), (mD, .inl (cL, 500, .inr (.inl (ins ds (mi_p ds d n) n d)))), (mA, .inl (cI, 500, .inl (ins as (mi_p ds d n) n a))), (mB, .inl (cI, 500, .inl (ins bs (mi_p ds d n) n b))), (mG, .inl (cI, 500, .inl (ins cs (mi_p ds d n) n c9)))] H := hP
          have hD9 : va_D A [(aM, .inr (3, [.int th0, .ref mS, .ref mC, .ref mL, .ref mK, .int kn, .ref mQ, .ref mT, .ref mD, .ref mA, .ref mB, .ref mG])), (mD, .inl (cL, 500, .inr (.inl (ins ds (mi_p ds d n) n d)))), (mA, .inl (cI, 500, .inl (ins as (mi_p ds d n) n a))), (mB, .inl (cI, 500, .inl (ins bs (mi_p ds d n) n b))), (mG, .inl (cI, 500, .inl (ins cs (mi_p ds d n) n c9)))] := hD
          exact W.vret hx hb hr (fun t ht hW => ⟨⟨(), rfl, trivial, by rw [ht]; exact hP9, hD9⟩, hS.F ht⟩) hS.2.2 d_M_put_127
        · rw [lg_cmp_le] at c_19
          refine lv_aload_n hx hb d_M_put_22 rfl (lv_at hl 1 rfl) ?_
          refine va_get (D := (dC, dI)) (ci := 3) (v := .ref mD) (C := "RoomEchoesModel") (T := FT_M) (N := 12) hx hb hts (hi_ in_M) hown hK hP 0 rfl rfl 8 (by decide) (ht_ hts mw432) (fun _ h9 => h9) rfl d_M_put_23 ?_
          refine lv_iload hx hb d_M_put_26 (lv_at hl 0 rfl) ?_
          refine lv_aload_n hx hb d_M_put_28 rfl (lv_at hl 1 rfl) ?_
          refine va_get (D := (dC, dI)) (ci := 3) (v := .ref mD) (C := "RoomEchoesModel") (T := FT_M) (N := 12) hx hb hts (hi_ in_M) hown hK hP 0 rfl rfl 8 (by decide) (ht_ hts mw432) (fun _ h9 => h9) rfl d_M_put_29 ?_
          refine lv_iload hx hb d_M_put_32 (lv_at hl 0 rfl) ?_
          refine lv_iconst (v := 1) hx hb d_M_put_34 (by decide) ?_
          refine lv_isub hx hb d_M_put_35 ?_
          refine tp_i (nI j) (nI_pred j) ?_
          refine va_lald hx hb hK hP 1 1 rfl rfl (vp_in_nI (by omega) (by omega)) d_M_put_36 ?_
          refine tp_l ((sf ds (j + 1) n) j) (by rw [nI_clamp (by omega)]) ?_
          refine va_last hx hb hK hP hD hS 1 1 rfl rfl (vp_in_nI (by omega) (by omega)) d_M_put_37 (fun H locs hP hD hS => ?_)
          rw [nI_clamp (n := (j + 1)) (by omega)] at hP hD
          have hP : va_P (dC, dI) vwCl [(aM, .inr (3, [.int th0, .ref mS, .ref mC, .ref mL, .ref mK, .int kn, .ref mQ, .ref mT, .ref mD, .ref mA, .ref mB, .ref mG])), (mD, .inl (cL, 500, .inr (.inl (vp_updL (sf ds (j + 1) n) (j + 1) ((sf ds (j + 1) n) j))))), (mA, .inl (cI, 500, .inl (sf as (j + 1) n))), (mB, .inl (cI, 500, .inl (sf bs (j + 1) n))), (mG, .inl (cI, 500, .inl (sf cs (j + 1) n)))] H := hP
          have hD : va_D A [(aM, .inr (3, [.int th0, .ref mS, .ref mC, .ref mL, .ref mK, .int kn, .ref mQ, .ref mT, .ref mD, .ref mA, .ref mB, .ref mG])), (mD, .inl (cL, 500, .inr (.inl (vp_updL (sf ds (j + 1) n) (j + 1) ((sf ds (j + 1) n) j))))), (mA, .inl (cI, 500, .inl (sf as (j + 1) n))), (mB, .inl (cI, 500, .inl (sf bs (j + 1) n))), (mG, .inl (cI, 500, .inl (sf cs (j + 1) n)))] := hD
          refine lv_aload_n hx hb d_M_put_38 rfl (lv_at hl 1 rfl) ?_
          refine va_get (D := (dC, dI)) (ci := 3) (v := .ref mA) (C := "RoomEchoesModel") (T := FT_M) (N := 12) hx hb hts (hi_ in_M) hown hK hP 0 rfl rfl 9 (by decide) (ht_ hts mw433) (fun _ h9 => h9) rfl d_M_put_39 ?_
          refine lv_iload hx hb d_M_put_42 (lv_at hl 0 rfl) ?_
          refine lv_aload_n hx hb d_M_put_44 rfl (lv_at hl 1 rfl) ?_
          refine va_get (D := (dC, dI)) (ci := 3) (v := .ref mA) (C := "RoomEchoesModel") (T := FT_M) (N := 12) hx hb hts (hi_ in_M) hown hK hP 0 rfl rfl 9 (by decide) (ht_ hts mw433) (fun _ h9 => h9) rfl d_M_put_45 ?_
          refine lv_iload hx hb d_M_put_48 (lv_at hl 0 rfl) ?_
          refine lv_iconst (v := 1) hx hb d_M_put_50 (by decide) ?_
          refine lv_isub hx hb d_M_put_51 ?_
          refine tp_i (nI j) (nI_pred j) ?_
          refine va_iald hx hb hK hP 2 0 rfl rfl (vp_in_nI (by omega) (by omega)) d_M_put_52 ?_
          refine tp_i ((sf as (j + 1) n) j) (by rw [nI_clamp (by omega)]) ?_
          refine va_iast hx hb hK hP hD hS 2 0 rfl rfl (vp_in_nI (by omega) (by omega)) d_M_put_53 (fun H locs hP hD hS => ?_)
          rw [nI_clamp (n := (j + 1)) (by omega)] at hP hD
          have hP : va_P (dC, dI) vwCl [(aM, .inr (3, [.int th0, .ref mS, .ref mC, .ref mL, .ref mK, .int kn, .ref mQ, .ref mT, .ref mD, .ref mA, .ref mB, .ref mG])), (mD, .inl (cL, 500, .inr (.inl (vp_updL (sf ds (j + 1) n) (j + 1) ((sf ds (j + 1) n) j))))), (mA, .inl (cI, 500, .inl (upd (sf as (j + 1) n) (j + 1) ((sf as (j + 1) n) j)))), (mB, .inl (cI, 500, .inl (sf bs (j + 1) n))), (mG, .inl (cI, 500, .inl (sf cs (j + 1) n)))] H := hP
          have hD : va_D A [(aM, .inr (3, [.int th0, .ref mS, .ref mC, .ref mL, .ref mK, .int kn, .ref mQ, .ref mT, .ref mD, .ref mA, .ref mB, .ref mG])), (mD, .inl (cL, 500, .inr (.inl (vp_updL (sf ds (j + 1) n) (j + 1) ((sf ds (j + 1) n) j))))), (mA, .inl (cI, 500, .inl (upd (sf as (j + 1) n) (j + 1) ((sf as (j + 1) n) j)))), (mB, .inl (cI, 500, .inl (sf bs (j + 1) n))), (mG, .inl (cI, 500, .inl (sf cs (j + 1) n)))] := hD
          refine lv_aload_n hx hb d_M_put_54 rfl (lv_at hl 1 rfl) ?_
          refine va_get (D := (dC, dI)) (ci := 3) (v := .ref mB) (C := "RoomEchoesModel") (T := FT_M) (N := 12) hx hb hts (hi_ in_M) hown hK hP 0 rfl rfl 10 (by decide) (ht_ hts mw434) (fun _ h9 => h9) rfl d_M_put_55 ?_
          refine lv_iload hx hb d_M_put_58 (lv_at hl 0 rfl) ?_
          refine lv_aload_n hx hb d_M_put_60 rfl (lv_at hl 1 rfl) ?_
          refine va_get (D := (dC, dI)) (ci := 3) (v := .ref mB) (C := "RoomEchoesModel") (T := FT_M) (N := 12) hx hb hts (hi_ in_M) hown hK hP 0 rfl rfl 10 (by decide) (ht_ hts mw434) (fun _ h9 => h9) rfl d_M_put_61 ?_
          refine lv_iload hx hb d_M_put_64 (lv_at hl 0 rfl) ?_
          refine lv_iconst (v := 1) hx hb d_M_put_66 (by decide) ?_
          refine lv_isub hx hb d_M_put_67 ?_
          refine tp_i (nI j) (nI_pred j) ?_
          refine va_iald hx hb hK hP 3 0 rfl rfl (vp_in_nI (by omega) (by omega)) d_M_put_68 ?_
          refine tp_i ((sf bs (j + 1) n) j) (by rw [nI_clamp (by omega)]) ?_
          refine va_iast hx hb hK hP hD hS 3 0 rfl rfl (vp_in_nI (by omega) (by omega)) d_M_put_69 (fun H locs hP hD hS => ?_)
          rw [nI_clamp (n := (j + 1)) (by omega)] at hP hD
          have hP : va_P (dC, dI) vwCl [(aM, .inr (3, [.int th0, .ref mS, .ref mC, .ref mL, .ref mK, .int kn, .ref mQ, .ref mT, .ref mD, .ref mA, .ref mB, .ref mG])), (mD, .inl (cL, 500, .inr (.inl (vp_updL (sf ds (j + 1) n) (j + 1) ((sf ds (j + 1) n) j))))), (mA, .inl (cI, 500, .inl (upd (sf as (j + 1) n) (j + 1) ((sf as (j + 1) n) j)))), (mB, .inl (cI, 500, .inl (upd (sf bs (j + 1) n) (j + 1) ((sf bs (j + 1) n) j)))), (mG, .inl (cI, 500, .inl (sf cs (j + 1) n)))] H := hP
          have hD : va_D A [(aM, .inr (3, [.int th0, .ref mS, .ref mC, .ref mL, .ref mK, .int kn, .ref mQ, .ref mT, .ref mD, .ref mA, .ref mB, .ref mG])), (mD, .inl (cL, 500, .inr (.inl (vp_updL (sf ds (j + 1) n) (j + 1) ((sf ds (j + 1) n) j))))), (mA, .inl (cI, 500, .inl (upd (sf as (j + 1) n) (j + 1) ((sf as (j + 1) n) j)))), (mB, .inl (cI, 500, .inl (upd (sf bs (j + 1) n) (j + 1) ((sf bs (j + 1) n) j)))), (mG, .inl (cI, 500, .inl (sf cs (j + 1) n)))] := hD
          refine lv_aload_n hx hb d_M_put_70 rfl (lv_at hl 1 rfl) ?_
          refine va_get (D := (dC, dI)) (ci := 3) (v := .ref mG) (C := "RoomEchoesModel") (T := FT_M) (N := 12) hx hb hts (hi_ in_M) hown hK hP 0 rfl rfl 11 (by decide) (ht_ hts mw435) (fun _ h9 => h9) rfl d_M_put_71 ?_
          refine lv_iload hx hb d_M_put_74 (lv_at hl 0 rfl) ?_
          refine lv_aload_n hx hb d_M_put_76 rfl (lv_at hl 1 rfl) ?_
          refine va_get (D := (dC, dI)) (ci := 3) (v := .ref mG) (C := "RoomEchoesModel") (T := FT_M) (N := 12) hx hb hts (hi_ in_M) hown hK hP 0 rfl rfl 11 (by decide) (ht_ hts mw435) (fun _ h9 => h9) rfl d_M_put_77 ?_
          refine lv_iload hx hb d_M_put_80 (lv_at hl 0 rfl) ?_
          refine lv_iconst (v := 1) hx hb d_M_put_82 (by decide) ?_
          refine lv_isub hx hb d_M_put_83 ?_
          refine tp_i (nI j) (nI_pred j) ?_
          refine va_iald hx hb hK hP 4 0 rfl rfl (vp_in_nI (by omega) (by omega)) d_M_put_84 ?_
          refine tp_i ((sf cs (j + 1) n) j) (by rw [nI_clamp (by omega)]) ?_
          refine va_iast hx hb hK hP hD hS 4 0 rfl rfl (vp_in_nI (by omega) (by omega)) d_M_put_85 (fun H locs hP hD hS => ?_)
          rw [nI_clamp (n := (j + 1)) (by omega)] at hP hD
          have hP : va_P (dC, dI) vwCl [(aM, .inr (3, [.int th0, .ref mS, .ref mC, .ref mL, .ref mK, .int kn, .ref mQ, .ref mT, .ref mD, .ref mA, .ref mB, .ref mG])), (mD, .inl (cL, 500, .inr (.inl (vp_updL (sf ds (j + 1) n) (j + 1) ((sf ds (j + 1) n) j))))), (mA, .inl (cI, 500, .inl (upd (sf as (j + 1) n) (j + 1) ((sf as (j + 1) n) j)))), (mB, .inl (cI, 500, .inl (upd (sf bs (j + 1) n) (j + 1) ((sf bs (j + 1) n) j)))), (mG, .inl (cI, 500, .inl (upd (sf cs (j + 1) n) (j + 1) ((sf cs (j + 1) n) j))))] H := hP
          have hD : va_D A [(aM, .inr (3, [.int th0, .ref mS, .ref mC, .ref mL, .ref mK, .int kn, .ref mQ, .ref mT, .ref mD, .ref mA, .ref mB, .ref mG])), (mD, .inl (cL, 500, .inr (.inl (vp_updL (sf ds (j + 1) n) (j + 1) ((sf ds (j + 1) n) j))))), (mA, .inl (cI, 500, .inl (upd (sf as (j + 1) n) (j + 1) ((sf as (j + 1) n) j)))), (mB, .inl (cI, 500, .inl (upd (sf bs (j + 1) n) (j + 1) ((sf bs (j + 1) n) j)))), (mG, .inl (cI, 500, .inl (upd (sf cs (j + 1) n) (j + 1) ((sf cs (j + 1) n) j))))] := hD
          refine lv_iinc (v := nI j) (lv' := [(7, .int (nI j)), (0, .ref aM), (1, .int (nI n)), (2, .long d), (4, .int a), (5, .int b), (6, .int c9)]) hx hb d_M_put_86 hl (k := 0) rfl (pk_m1 _) (by decide) rfl (fun ls hl => ?_)
          refine lv_goto (tgt := 3) hx hb d_M_put_89 (by decide) ?_
          rw [sf_stL ds (by omega), sf_stI as (by omega), sf_stI bs (by omega), sf_stI cs (by omega)] at hP hD
          exact ih j (by omega) (by omega) (by rw [← hj]; exact (if_neg c_19).symm) _ _ hP hD hS ls (lv_sub hl [0, 1, 2, 3, 4, 5, 6] rfl)
  exact lp (n + 1) n (by omega) (Nat.le_refl _) rfl _ _ hP hD hS ls (lv_sub hl [0, 1, 2, 3, 4, 5, 6] rfl)

theorem nI_40 {a : Nat} (h : a < 81) : nI a - 40 = nz a := by
  apply i_inj
  have e : (nI a).toInt = (a : Int) := nI_toInt (by omega)
  have z : (40 : Int32).toInt = 40 := rfl
  rw [i_sub (by omega) (by omega), nz_int (by omega), e, z]
theorem dl_at (q0 q1 q2 : Nat → Nat) {a b c : Nat} (hb : b < 81) (hc : c < 81) : dl q0 q1 q2 (6561 * a + 81 * b + c) = q0 a + q1 b + q2 c := by
  unfold dl
  rw [show (6561 * a + 81 * b + c) / 6561 = a by omega, show (6561 * a + 81 * b + c) / 81 % 81 = b by omega, show (6561 * a + 81 * b + c) % 81 = c by omega]
def qb (q0 q1 q2 : Nat → Nat) : Prop := ∀ a, a < 81 → q0 a < 2147483648 ∧ q1 a < 2147483648 ∧ q2 a < 2147483648
theorem dl_bd {q0 q1 q2 : Nat → Nat} (h : qb q0 q1 q2) : ∀ t, t < 531441 → dl q0 q1 q2 t < 6442450944 := by
  intro t ht
  have a := (h (t / 6561) (by omega)).1
  have b := (h (t / 81 % 81) (by omega)).2.1
  have c := (h (t % 81) (by omega)).2.2
  unfold dl
  omega
theorem JC_put3 {q0 q1 q2 : Nat → Nat} {lo hi n0 n a b c : Nat} {ds : Nat → Int64} {as bs cs : Nat → Int32} (hq : qb q0 q1 q2) (h : JC (dl q0 q1 q2) lo hi n0 (6561 * a + 81 * b + c) n ds as bs cs) (hn : n < 500) (ha : a < 81) (hb : b < 81) (hc : c < 81) (h1 : lo ≤ q0 a + q1 b + q2 c) (h2 : q0 a + q1 b + q2 c < hi) :
    JC (dl q0 q1 q2) lo hi n0 (6561 * a + 81 * b + (c + 1)) (n + 1) (ins ds (mi_p ds (lN (q0 a + q1 b + q2 c)) n) n (lN (q0 a + q1 b + q2 c))) (ins as (mi_p ds (lN (q0 a + q1 b + q2 c)) n) n (nz a)) (ins bs (mi_p ds (lN (q0 a + q1 b + q2 c)) n) n (nz b)) (ins cs (mi_p ds (lN (q0 a + q1 b + q2 c)) n) n (nz c)) := by
  have e := dl_at q0 q1 q2 (a := a) hb hc
  have r := JC_put (dl_bd hq) h hn (by omega) (by rw [e]; exact ⟨h1, h2⟩)
  rw [e, show (6561 * a + 81 * b + c) / 6561 = a by omega, show (6561 * a + 81 * b + c) / 81 % 81 = b by omega, show (6561 * a + 81 * b + c) % 81 = c by omega] at r
  exact r
theorem JC_no {q0 q1 q2 : Nat → Nat} {lo hi n0 n a b c : Nat} {ds : Nat → Int64} {as bs cs : Nat → Int32} (h : JC (dl q0 q1 q2) lo hi n0 (6561 * a + 81 * b + c) n ds as bs cs) (hb : b < 81) (hc : c < 81) (h1 : ¬ (lo ≤ q0 a + q1 b + q2 c ∧ q0 a + q1 b + q2 c < hi)) : JC (dl q0 q1 q2) lo hi n0 (6561 * a + 81 * b + (c + 1)) n ds as bs cs :=
  JC_skip h (by omega) (fun u u1 u2 => by rw [show u = 6561 * a + 81 * b + c by omega, dl_at q0 q1 q2 hb hc]; exact h1)
theorem JC_row {q0 q1 q2 : Nat → Nat} {lo hi n0 n a b c : Nat} {ds : Nat → Int64} {as bs cs : Nat → Int32} (h : JC (dl q0 q1 q2) lo hi n0 (6561 * a + 81 * b + c) n ds as bs cs) (hb : b < 81) (hc : c ≤ 81) (h1 : hi ≤ q0 a + q1 b) : JC (dl q0 q1 q2) lo hi n0 (6561 * a + 81 * (b + 1)) n ds as bs cs :=
  JC_skip h (by omega) (fun u u1 u2 => by
    rw [show u = 6561 * a + 81 * b + (u - 6561 * a - 81 * b) by omega, dl_at q0 q1 q2 hb (by omega)]
    omega)
theorem JC_n {dd : Nat → Nat} {lo hi n0 T n : Nat} {ds : Nat → Int64} {as bs cs : Nat → Int32} (h : JC dd lo hi n0 T n ds as bs cs) : n ≤ 500 := by obtain ⟨_, _, _, _, h5, _⟩ := h; exact h5
theorem JC_T {dd : Nat → Nat} {lo hi n0 T T2 n : Nat} {ds : Nat → Int64} {as bs cs : Nat → Int32} (h : JC dd lo hi n0 T n ds as bs cs) (e : T = T2) : JC dd lo hi n0 T2 n ds as bs cs := by rw [← e]; exact h

set_option maxHeartbeats 4000000 in
set_option maxRecDepth 100000 in
theorem c_M_collect (l : Launch) (dC : Nat → ClassId) (dI : Nat → Nat → Nat) (cI cL : ClassId) (aM : Nat) (th0 : Int32) (kn : Int32) (mS : Nat) (mC : Nat) (mL : Nat) (mK : Nat) (mQ : Nat) (mT : Nat) (mD : Nat) (mA : Nat) (mB : Nat) (mG : Nat) (sq : Nat → Int64) (ds : Nat → Int64) (as : Nat → Int32) (bs : Nat → Int32) (cs : Nat → Int32) (q0 : Nat → Nat) (q1 : Nat → Nat) (q2 : Nat → Nat) (lo : Nat) (hi : Nat) (n0 : Nat) (mo : Int64) (le : Int64) (sz : Nat) (hs0 : ∀ a, a < 81 → sq a = lN (q0 a)) (hs1 : ∀ a, a < 81 → sq (81 + a) = lN (q1 a)) (hs2 : ∀ a, a < 81 → sq (162 + a) = lN (q2 a)) (hq : qb q0 q1 q2) (hmo : ∀ x, x < 6442450944 → (lN x ≤ mo ↔ x < hi)) (hle : ∀ x, x < 6442450944 → (lN x < le ↔ x < lo)) (hJ : JC (dl q0 q1 q2) lo hi n0 0 n0 ds as bs cs) : Met l y_M_collect w_M_collect ({ frames := 1, cells := 0, slots := 0, locals := 27 }) (wr_P (dC, dI) cI cL [(aM, .inr (3, [.int th0, .ref mS, .ref mC, .ref mL, .ref mK, .int kn, .ref mQ, .ref mT, .ref mD, .ref mA, .ref mB, .ref mG])), (mQ, .inl (cL, 243, .inr (.inl sq))), (mD, .inl (cL, 500, .inr (.inl ds))), (mA, .inl (cI, 500, .inl as)), (mB, .inl (cI, 500, .inl bs)), (mG, .inl (cI, 500, .inl cs))] sz [.ref aM, .int (nI n0), .long mo, .long le]) (va_Qi (fun (r9 : Int32) (u : (Nat) × (Nat → Int64) × (Nat → Int32) × (Nat → Int32) × (Nat → Int32)) => r9 = nI u.1 ∧ JC (dl q0 q1 q2) lo hi n0 531441 u.1 u.2.1 u.2.2.1 u.2.2.2.1 u.2.2.2.2) (fun u t => va_P (dC, dI) vwCl [(aM, .inr (3, [.int th0, .ref mS, .ref mC, .ref mL, .ref mK, .int kn, .ref mQ, .ref mT, .ref mD, .ref mA, .ref mB, .ref mG])), (mQ, .inl (cL, 243, .inr (.inl sq))), (mD, .inl (cL, 500, .inr (.inl u.2.1))), (mA, .inl (cI, 500, .inl u.2.2.1)), (mB, .inl (cI, 500, .inl u.2.2.2.1)), (mG, .inl (cI, 500, .inl u.2.2.2.2))] t.heap ∧ va_D (va_A [(aM, .inr (3, [.int th0, .ref mS, .ref mC, .ref mL, .ref mK, .int kn, .ref mQ, .ref mT, .ref mD, .ref mA, .ref mB, .ref mG])), (mQ, .inl (cL, 243, .inr (.inl sq))), (mD, .inl (cL, 500, .inr (.inl ds))), (mA, .inl (cI, 500, .inl as)), (mB, .inl (cI, 500, .inl bs)), (mG, .inl (cI, 500, .inl cs))] sz) [(aM, .inr (3, [.int th0, .ref mS, .ref mC, .ref mL, .ref mK, .int kn, .ref mQ, .ref mT, .ref mD, .ref mA, .ref mB, .ref mG])), (mQ, .inl (cL, 243, .inr (.inl sq))), (mD, .inl (cL, 500, .inr (.inl u.2.1))), (mA, .inl (cI, 500, .inl u.2.2.1)), (mB, .inl (cI, 500, .inl u.2.2.2.1)), (mG, .inl (cI, 500, .inl u.2.2.2.2))]) (va_A [(aM, .inr (3, [.int th0, .ref mS, .ref mC, .ref mL, .ref mK, .int kn, .ref mQ, .ref mT, .ref mD, .ref mA, .ref mB, .ref mG])), (mQ, .inl (cL, 243, .inr (.inl sq))), (mD, .inl (cL, 500, .inr (.inl ds))), (mA, .inl (cI, 500, .inl as)), (mB, .inl (cI, 500, .inl bs)), (mG, .inl (cI, 500, .inl cs))] sz)) 0 0 (va_A [(aM, .inr (3, [.int th0, .ref mS, .ref mC, .ref mL, .ref mK, .int kn, .ref mQ, .ref mT, .ref mD, .ref mA, .ref mB, .ref mG])), (mQ, .inl (cL, 243, .inr (.inl sq))), (mD, .inl (cL, 500, .inr (.inl ds))), (mA, .inl (cI, 500, .inl as)), (mB, .inl (cI, 500, .inl bs)), (mG, .inl (cI, 500, .inl cs))] sz) := by
  refine Met.ofW (cc := b_M_collect) (maxL := 14) (ret := (some .int)) (by decide) rfl ?_
  intro p e s m args below meth c s₁ B hml hv
  obtain ⟨rfl, hsz, hP, hM, hD0⟩ := hv
  have hx := B.exec
  have hb := B.bytes
  have hr := B.returns
  have hts := atoms_spec (ws := w_M_collect) B.pre
  have hown : s.vm.findClass "RoomEchoesModel" = some m.cls := findClass_of_methodNamed B.named
  have hlocks := B.notSynchronized
  have hK := hM.1
  subst hsz
  have hD := hD0.self (sz := s.heap.size)
  generalize hAe : va_A [(aM, .inr (3, [.int th0, .ref mS, .ref mC, .ref mL, .ref mK, .int kn, .ref mQ, .ref mT, .ref mD, .ref mA, .ref mB, .ref mG])), (mQ, .inl (cL, 243, .inr (.inl sq))), (mD, .inl (cL, 500, .inr (.inl ds))), (mA, .inl (cI, 500, .inl as)), (mB, .inl (cI, 500, .inl bs)), (mG, .inl (cI, 500, .inl cs))] s.heap.size = A at hD ⊢
  have hA : ∀ q : Nat, s.heap.size ≤ q → A q := fun q h => by rw [← hAe]; exact Or.inr h
  have hS : va_S A s.heap s.heap [] := va_S.rf
  have hP : va_P (dC, dI) vwCl [(aM, .inr (3, [.int th0, .ref mS, .ref mC, .ref mL, .ref mK, .int kn, .ref mQ, .ref mT, .ref mD, .ref mA, .ref mB, .ref mG])), (mQ, .inl (cL, 243, .inr (.inl sq))), (mD, .inl (cL, 500, .inr (.inl ds))), (mA, .inl (cI, 500, .inl as)), (mB, .inl (cI, 500, .inl bs)), (mG, .inl (cI, 500, .inl cs))] s.heap := hP
  have hl := lv_entry ([.ref aM, .int (nI n0), .long mo, .long le]) (n := 14) (Nat.le_of_ble_eq_true rfl)
  rw [lg_entry_eq]
  generalize (lg_sl ([.ref aM, .int (nI n0), .long mo, .long le]) ++ List.replicate (14 - (lg_sl ([.ref aM, .int (nI n0), .long mo, .long le])).length) Slot.unset).toArray = ls at hl ⊢
  have hl : lv_has ls 14 [(0, .ref aM), (1, .int (nI n0)), (2, .long mo), (4, .long le)] := hl
  refine lv_iload_n hx hb d_M_collect_0 rfl (lv_at hl 1 rfl) ?_
  refine lv_istore (lv' := [(6, .int (nI n0)), (0, .ref aM), (1, .int (nI n0)), (2, .long mo), (4, .long le)]) hx hb d_M_collect_1 hl (by decide) rfl (fun ls hl => ?_)
  refine lv_iconst (v := 0) hx hb d_M_collect_3 (by decide) ?_
  refine lv_istore (lv' := [(7, .int 0), (6, .int (nI n0)), (0, .ref aM), (1, .int (nI n0)), (2, .long mo), (4, .long le)]) hx hb d_M_collect_4 hl (by decide) rfl (fun ls hl => ?_)
  have lpa : ∀ (fa : Nat) (ia : Nat) (n1 : Nat) (ds1 : Nat → Int64) (as1 : Nat → Int32) (bs1 : Nat → Int32) (cs1 : Nat → Int32), 81 < ia + fa → ia ≤ 81 → JC (dl q0 q1 q2) lo hi n0 (6561 * ia) n1 ds1 as1 bs1 cs1 → ∀ (H : Heap) (locs : List Loc), va_P (dC, dI) vwCl [(aM, .inr (3, [.int th0, .ref mS, .ref mC, .ref mL, .ref mK, .int kn, .ref mQ, .ref mT, .ref mD, .ref mA, .ref mB, .ref mG])), (mQ, .inl (cL, 243, .inr (.inl sq))), (mD, .inl (cL, 500, .inr (.inl ds1))), (mA, .inl (cI, 500, .inl as1)), (mB, .inl (cI, 500, .inl bs1)), (mG, .inl (cI, 500, .inl cs1))] H → va_D A [(aM, .inr (3, [.int th0, .ref mS, .ref mC, .ref mL, .ref mK, .int kn, .ref mQ, .ref mT, .ref mD, .ref mA, .ref mB, .ref mG])), (mQ, .inl (cL, 243, .inr (.inl sq))), (mD, .inl (cL, 500, .inr (.inl ds1))), (mA, .inl (cI, 500, .inl as1)), (mB, .inl (cI, 500, .inl bs1)), (mG, .inl (cI, 500, .inl cs1))] → va_S A s.heap H locs → ∀ (ls : Array Slot), lv_has ls 14 [(7, .int (nI ia)), (6, .int (nI n1)), (0, .ref aM), (1, .int (nI n0)), (2, .long mo), (4, .long le)] → W p l e (headSpec w_M_collect ({ frames := 1, cells := 0, slots := 0, locals := 27 })).room s m ([.ref aM, .int (nI n0), .long mo, .long le] : List Value).toArray below meth c H locs 0 0 (MQ below (va_Qi (fun (r9 : Int32) (u : (Nat) × (Nat → Int64) × (Nat → Int32) × (Nat → Int32) × (Nat → Int32)) => r9 = nI u.1 ∧ JC (dl q0 q1 q2) lo hi n0 531441 u.1 u.2.1 u.2.2.1 u.2.2.2.1 u.2.2.2.2) (fun u t => va_P (dC, dI) vwCl [(aM, .inr (3, [.int th0, .ref mS, .ref mC, .ref mL, .ref mK, .int kn, .ref mQ, .ref mT, .ref mD, .ref mA, .ref mB, .ref mG])), (mQ, .inl (cL, 243, .inr (.inl sq))), (mD, .inl (cL, 500, .inr (.inl u.2.1))), (mA, .inl (cI, 500, .inl u.2.2.1)), (mB, .inl (cI, 500, .inl u.2.2.2.1)), (mG, .inl (cI, 500, .inl u.2.2.2.2))] t.heap ∧ va_D A [(aM, .inr (3, [.int th0, .ref mS, .ref mC, .ref mL, .ref mK, .int kn, .ref mQ, .ref mT, .ref mD, .ref mA, .ref mB, .ref mG])), (mQ, .inl (cL, 243, .inr (.inl sq))), (mD, .inl (cL, 500, .inr (.inl u.2.1))), (mA, .inl (cI, 500, .inl u.2.2.1)), (mB, .inl (cI, 500, .inl u.2.2.2.1)), (mG, .inl (cI, 500, .inl u.2.2.2.2))]) A) ([.ref aM, .int (nI n0), .long mo, .long le] : List Value).toArray s 0 0 A) (F0 m 6 ls []) := by
    intro fa
    induction fa with
    | zero => intro ia n1 ds1 as1 bs1 cs1 hfa hia hJ1 H locs hP hD hS ls hl; omega
    | succ fa iha =>
      intro ia n1 ds1 as1 bs1 cs1 hfa hia hJ1 H locs hP hD hS ls hl
      refine lv_iload hx hb d_M_collect_6 (lv_at hl 0 rfl) ?_
      refine lv_bipush (v := 81) hx hb d_M_collect_8 (by decide) ?_
      refine lv_icmp_ge (tgt := 143) hx hb d_M_collect_10 (by decide) (fun c_10 => ?_) (fun c_10 => ?_)
      · skip
        refine lv_iload hx hb d_M_collect_143 (lv_at hl 1 rfl) ?_
        have a81 : ia = 81 := by have : 81 ≤ ia := nu_end (x := 81) (by omega) c_10; omega
        have hP9 : va_P (dC, dI) vwCl [(aM, .inr (3, [.int th0, .ref mS, .ref mC, .ref mL, .ref mK, .int kn, .ref mQ, .ref mT, .ref mD, .ref mA, .ref mB, .ref mG])), (mQ, .inl (cL, 243, .inr (.inl sq))), (mD, .inl (cL, 500, .inr (.inl ds1))), (mA, .inl (cI, 500, .inl as1)), (mB, .inl (cI, 500, .inl bs1)), (mG, .inl (cI, 500, .inl cs1))] _ := hP
        have hD9 : va_D A [(aM, .inr (3, [.int th0, .ref mS, .ref mC, .ref mL, .ref mK, .int kn, .ref mQ, .ref mT, .ref mD, .ref mA, .ref mB, .ref mG])), (mQ, .inl (cL, 243, .inr (.inl sq))), (mD, .inl (cL, 500, .inr (.inl ds1))), (mA, .inl (cI, 500, .inl as1)), (mB, .inl (cI, 500, .inl bs1)), (mG, .inl (cI, 500, .inl cs1))] := hD
        exact W.iret (v := nI n1) hx hb hr (fun t ht hW => ⟨⟨_, (n1, ds1, as1, bs1, cs1), rfl, ⟨rfl, JC_T hJ1 (by omega)⟩, by rw [ht]; exact hP9, hD9⟩, hS.F ht⟩) hS.2.2 d_M_collect_145
      · skip
        refine lv_iconst (v := 0) hx hb d_M_collect_13 (by decide) ?_
        refine lv_istore (lv' := [(8, .int 0), (7, .int (nI ia)), (6, .int (nI n1)), (0, .ref aM), (1, .int (nI n0)), (2, .long mo), (4, .long le)]) hx hb d_M_collect_14 hl (by decide) rfl (fun ls hl => ?_)
        have a5 : ia < 81 := nu_on (x := 81) (by omega) c_10
        have lpb : ∀ (fb : Nat) (ib : Nat) (n2 : Nat) (ds2 : Nat → Int64) (as2 : Nat → Int32) (bs2 : Nat → Int32) (cs2 : Nat → Int32), 81 < ib + fb → ib ≤ 81 → JC (dl q0 q1 q2) lo hi n0 (6561 * ia + 81 * ib) n2 ds2 as2 bs2 cs2 → ∀ (H : Heap) (locs : List Loc), va_P (dC, dI) vwCl [(aM, .inr (3, [.int th0, .ref mS, .ref mC, .ref mL, .ref mK, .int kn, .ref mQ, .ref mT, .ref mD, .ref mA, .ref mB, .ref mG])), (mQ, .inl (cL, 243, .inr (.inl sq))), (mD, .inl (cL, 500, .inr (.inl ds2))), (mA, .inl (cI, 500, .inl as2)), (mB, .inl (cI, 500, .inl bs2)), (mG, .inl (cI, 500, .inl cs2))] H → va_D A [(aM, .inr (3, [.int th0, .ref mS, .ref mC, .ref mL, .ref mK, .int kn, .ref mQ, .ref mT, .ref mD, .ref mA, .ref mB, .ref mG])), (mQ, .inl (cL, 243, .inr (.inl sq))), (mD, .inl (cL, 500, .inr (.inl ds2))), (mA, .inl (cI, 500, .inl as2)), (mB, .inl (cI, 500, .inl bs2)), (mG, .inl (cI, 500, .inl cs2))] → va_S A s.heap H locs → ∀ (ls : Array Slot), lv_has ls 14 [(8, .int (nI ib)), (7, .int (nI ia)), (6, .int (nI n2)), (0, .ref aM), (1, .int (nI n0)), (2, .long mo), (4, .long le)] → W p l e (headSpec w_M_collect ({ frames := 1, cells := 0, slots := 0, locals := 27 })).room s m ([.ref aM, .int (nI n0), .long mo, .long le] : List Value).toArray below meth c H locs 0 0 (MQ below (va_Qi (fun (r9 : Int32) (u : (Nat) × (Nat → Int64) × (Nat → Int32) × (Nat → Int32) × (Nat → Int32)) => r9 = nI u.1 ∧ JC (dl q0 q1 q2) lo hi n0 531441 u.1 u.2.1 u.2.2.1 u.2.2.2.1 u.2.2.2.2) (fun u t => va_P (dC, dI) vwCl [(aM, .inr (3, [.int th0, .ref mS, .ref mC, .ref mL, .ref mK, .int kn, .ref mQ, .ref mT, .ref mD, .ref mA, .ref mB, .ref mG])), (mQ, .inl (cL, 243, .inr (.inl sq))), (mD, .inl (cL, 500, .inr (.inl u.2.1))), (mA, .inl (cI, 500, .inl u.2.2.1)), (mB, .inl (cI, 500, .inl u.2.2.2.1)), (mG, .inl (cI, 500, .inl u.2.2.2.2))] t.heap ∧ va_D A [(aM, .inr (3, [.int th0, .ref mS, .ref mC, .ref mL, .ref mK, .int kn, .ref mQ, .ref mT, .ref mD, .ref mA, .ref mB, .ref mG])), (mQ, .inl (cL, 243, .inr (.inl sq))), (mD, .inl (cL, 500, .inr (.inl u.2.1))), (mA, .inl (cI, 500, .inl u.2.2.1)), (mB, .inl (cI, 500, .inl u.2.2.2.1)), (mG, .inl (cI, 500, .inl u.2.2.2.2))]) A) ([.ref aM, .int (nI n0), .long mo, .long le] : List Value).toArray s 0 0 A) (F0 m 16 ls []) := by
          intro fb
          induction fb with
          | zero => intro ib n2 ds2 as2 bs2 cs2 hfb hib hJ2 H locs hP hD hS ls hl; omega
          | succ fb ihb =>
            intro ib n2 ds2 as2 bs2 cs2 hfb hib hJ2 H locs hP hD hS ls hl
            refine lv_iload hx hb d_M_collect_16 (lv_at hl 0 rfl) ?_
            refine lv_bipush (v := 81) hx hb d_M_collect_18 (by decide) ?_
            refine lv_icmp_ge (tgt := 137) hx hb d_M_collect_20 (by decide) (fun c_20 => ?_) (fun c_20 => ?_)
            · skip
              refine lv_iinc (v := nI (ia + 1)) (lv' := [(7, .int (nI (ia + 1))), (8, .int (nI ib)), (6, .int (nI n2)), (0, .ref aM), (1, .int (nI n0)), (2, .long mo), (4, .long le)]) hx hb d_M_collect_137 hl (k := 1) rfl (nI_succ _).symm (by decide) rfl (fun ls hl => ?_)
              refine lv_goto (tgt := 6) hx hb d_M_collect_140 (by decide) ?_
              exact iha (ia + 1) _ _ _ _ _ (by omega) (by omega) (JC_T hJ2 (by have : 81 ≤ ib := nu_end (x := 81) (by omega) c_20; omega)) _ _ hP hD hS ls (lv_sub hl [0, 2, 3, 4, 5, 6] rfl)
            · skip
              have b5 : ib < 81 := nu_on (x := 81) (by omega) c_20
              refine lv_aload_n hx hb d_M_collect_23 rfl (lv_at hl 3 rfl) ?_
              refine va_get (D := (dC, dI)) (ci := 3) (v := .ref mQ) (C := "RoomEchoesModel") (T := FT_M) (N := 12) hx hb hts (hi_ in_M) hown hK hP 0 rfl rfl 6 (by decide) (ht_ hts mw430) (fun _ h9 => h9) rfl d_M_collect_24 ?_
              refine lv_iload hx hb d_M_collect_27 (lv_at hl 1 rfl) ?_
              refine va_lald hx hb hK hP 1 1 rfl rfl (vp_in_nI (by omega) (by omega)) d_M_collect_29 ?_
              refine tp_l (sq ia) (by rw [nI_clamp (by omega)]) ?_
              refine lv_aload_n hx hb d_M_collect_30 rfl (lv_at hl 3 rfl) ?_
              refine va_get (D := (dC, dI)) (ci := 3) (v := .ref mQ) (C := "RoomEchoesModel") (T := FT_M) (N := 12) hx hb hts (hi_ in_M) hown hK hP 0 rfl rfl 6 (by decide) (ht_ hts mw430) (fun _ h9 => h9) rfl d_M_collect_31 ?_
              refine lv_bipush (v := 81) hx hb d_M_collect_34 (by decide) ?_
              refine lv_iload hx hb d_M_collect_36 (lv_at hl 0 rfl) ?_
              refine lv_iadd hx hb d_M_collect_38 ?_
              refine tp_i (nI (81 + ib)) (nI_add 81 ib) ?_
              refine va_lald hx hb hK hP 1 1 rfl rfl (vp_in_nI (by omega) (by omega)) d_M_collect_39 ?_
              refine tp_l (sq (81 + ib)) (by rw [nI_clamp (by omega)]) ?_
              refine lv_ladd hx hb d_M_collect_40 ?_
              refine tp_l (lN (q0 ia + q1 ib)) (by rw [hs0 ia a5, hs1 ib b5, lN_add]) ?_
              refine lv_lstore (lv' := [(9, .long (lN (q0 ia + q1 ib))), (8, .int (nI ib)), (7, .int (nI ia)), (6, .int (nI n2)), (0, .ref aM), (1, .int (nI n0)), (2, .long mo), (4, .long le)]) hx hb d_M_collect_41 hl (by decide) rfl (fun ls hl => ?_)
              refine lv_iconst (v := 0) hx hb d_M_collect_43 (by decide) ?_
              refine lv_istore (lv' := [(11, .int 0), (9, .long (lN (q0 ia + q1 ib))), (8, .int (nI ib)), (7, .int (nI ia)), (6, .int (nI n2)), (0, .ref aM), (1, .int (nI n0)), (2, .long mo), (4, .long le)]) hx hb d_M_collect_44 hl (by decide) rfl (fun ls hl => ?_)
              have lpc : ∀ (fc : Nat) (ic : Nat) (n3 : Nat) (ds3 : Nat → Int64) (as3 : Nat → Int32) (bs3 : Nat → Int32) (cs3 : Nat → Int32), 81 < ic + fc → ic ≤ 81 → JC (dl q0 q1 q2) lo hi n0 (6561 * ia + 81 * ib + ic) n3 ds3 as3 bs3 cs3 → ∀ (H : Heap) (locs : List Loc), va_P (dC, dI) vwCl [(aM, .inr (3, [.int th0, .ref mS, .ref mC, .ref mL, .ref mK, .int kn, .ref mQ, .ref mT, .ref mD, .ref mA, .ref mB, .ref mG])), (mQ, .inl (cL, 243, .inr (.inl sq))), (mD, .inl (cL, 500, .inr (.inl ds3))), (mA, .inl (cI, 500, .inl as3)), (mB, .inl (cI, 500, .inl bs3)), (mG, .inl (cI, 500, .inl cs3))] H → va_D A [(aM, .inr (3, [.int th0, .ref mS, .ref mC, .ref mL, .ref mK, .int kn, .ref mQ, .ref mT, .ref mD, .ref mA, .ref mB, .ref mG])), (mQ, .inl (cL, 243, .inr (.inl sq))), (mD, .inl (cL, 500, .inr (.inl ds3))), (mA, .inl (cI, 500, .inl as3)), (mB, .inl (cI, 500, .inl bs3)), (mG, .inl (cI, 500, .inl cs3))] → va_S A s.heap H locs → ∀ (ls : Array Slot), lv_has ls 14 [(11, .int (nI ic)), (9, .long (lN (q0 ia + q1 ib))), (8, .int (nI ib)), (7, .int (nI ia)), (6, .int (nI n3)), (0, .ref aM), (1, .int (nI n0)), (2, .long mo), (4, .long le)] → W p l e (headSpec w_M_collect ({ frames := 1, cells := 0, slots := 0, locals := 27 })).room s m ([.ref aM, .int (nI n0), .long mo, .long le] : List Value).toArray below meth c H locs 0 0 (MQ below (va_Qi (fun (r9 : Int32) (u : (Nat) × (Nat → Int64) × (Nat → Int32) × (Nat → Int32) × (Nat → Int32)) => r9 = nI u.1 ∧ JC (dl q0 q1 q2) lo hi n0 531441 u.1 u.2.1 u.2.2.1 u.2.2.2.1 u.2.2.2.2) (fun u t => va_P (dC, dI) vwCl [(aM, .inr (3, [.int th0, .ref mS, .ref mC, .ref mL, .ref mK, .int kn, .ref mQ, .ref mT, .ref mD, .ref mA, .ref mB, .ref mG])), (mQ, .inl (cL, 243, .inr (.inl sq))), (mD, .inl (cL, 500, .inr (.inl u.2.1))), (mA, .inl (cI, 500, .inl u.2.2.1)), (mB, .inl (cI, 500, .inl u.2.2.2.1)), (mG, .inl (cI, 500, .inl u.2.2.2.2))] t.heap ∧ va_D A [(aM, .inr (3, [.int th0, .ref mS, .ref mC, .ref mL, .ref mK, .int kn, .ref mQ, .ref mT, .ref mD, .ref mA, .ref mB, .ref mG])), (mQ, .inl (cL, 243, .inr (.inl sq))), (mD, .inl (cL, 500, .inr (.inl u.2.1))), (mA, .inl (cI, 500, .inl u.2.2.1)), (mB, .inl (cI, 500, .inl u.2.2.2.1)), (mG, .inl (cI, 500, .inl u.2.2.2.2))]) A) ([.ref aM, .int (nI n0), .long mo, .long le] : List Value).toArray s 0 0 A) (F0 m 46 ls []) := by
                intro fc
                induction fc with
                | zero => intro ic n3 ds3 as3 bs3 cs3 hfc hic hJ3 H locs hP hD hS ls hl; omega
                | succ fc ihc =>
                  intro ic n3 ds3 as3 bs3 cs3 hfc hic hJ3 H locs hP hD hS ls hl
                  refine lv_iload hx hb d_M_collect_46 (lv_at hl 0 rfl) ?_
                  have n3b : n3 ≤ 500 := JC_n hJ3
                  refine lv_bipush (v := 81) hx hb d_M_collect_48 (by decide) ?_
                  refine lv_icmp_ge (tgt := 131) hx hb d_M_collect_50 (by decide) (fun c_50 => ?_) (fun c_50 => ?_)
                  · skip
                    refine lv_iinc (v := nI (ib + 1)) (lv' := [(8, .int (nI (ib + 1))), (11, .int (nI ic)), (9, .long (lN (q0 ia + q1 ib))), (7, .int (nI ia)), (6, .int (nI n3)), (0, .ref aM), (1, .int (nI n0)), (2, .long mo), (4, .long le)]) hx hb d_M_collect_131 hl (k := 2) rfl (nI_succ _).symm (by decide) rfl (fun ls hl => ?_)
                    refine lv_goto (tgt := 16) hx hb d_M_collect_134 (by decide) ?_
                    exact ihb (ib + 1) _ _ _ _ _ (by omega) (by omega) (JC_T hJ3 (by have : 81 ≤ ic := nu_end (x := 81) (by omega) c_50; omega)) _ _ hP hD hS ls (lv_sub hl [0, 3, 4, 5, 6, 7, 8] rfl)
                  · skip
                    refine lv_lload hx hb d_M_collect_53 (lv_at hl 1 rfl) ?_
                    refine lv_lload_n hx hb d_M_collect_55 rfl (lv_at hl 7 rfl) ?_
                    refine W.lcmp hx hb d_M_collect_56 ?_
                    refine lv_if_gt (tgt := 131) hx hb d_M_collect_57 (by decide) (fun c_57 => ?_) (fun c_57 => ?_)
                    · rw [lg_cmp_gt] at c_57
                      refine lv_iinc (v := nI (ib + 1)) (lv' := [(8, .int (nI (ib + 1))), (11, .int (nI ic)), (9, .long (lN (q0 ia + q1 ib))), (7, .int (nI ia)), (6, .int (nI n3)), (0, .ref aM), (1, .int (nI n0)), (2, .long mo), (4, .long le)]) hx hb d_M_collect_131 hl (k := 2) rfl (nI_succ _).symm (by decide) rfl (fun ls hl => ?_)
                      refine lv_goto (tgt := 16) hx hb d_M_collect_134 (by decide) ?_
                      exact ihb (ib + 1) _ _ _ _ _ (by omega) (by omega) (JC_row hJ3 b5 hic (Nat.not_lt.mp (fun y => by have b9 := hq ia a5; have b8 := hq ib b5; have z := (hmo (q0 ia + q1 ib) (by omega)).mpr y; rw [pu_le] at z; rw [pu_lt] at c_57; omega))) _ _ hP hD hS ls (lv_sub hl [0, 3, 4, 5, 6, 7, 8] rfl)
                    · rw [lg_cmp_gt] at c_57
                      refine lv_iload hx hb d_M_collect_60 (lv_at hl 4 rfl) ?_
                      refine lv_sipush (v := 500) hx hb d_M_collect_62 (by decide) ?_
                      refine lv_icmp_ge (tgt := 131) hx hb d_M_collect_65 (by decide) (fun c_65 => ?_) (fun c_65 => ?_)
                      · skip
                        refine lv_iinc (v := nI (ib + 1)) (lv' := [(8, .int (nI (ib + 1))), (11, .int (nI ic)), (9, .long (lN (q0 ia + q1 ib))), (7, .int (nI ia)), (6, .int (nI n3)), (0, .ref aM), (1, .int (nI n0)), (2, .long mo), (4, .long le)]) hx hb d_M_collect_131 hl (k := 2) rfl (nI_succ _).symm (by decide) rfl (fun ls hl => ?_)
                        refine lv_goto (tgt := 16) hx hb d_M_collect_134 (by decide) ?_
                        exact ihb (ib + 1) _ _ _ _ _ (by omega) (by omega) (JC_full hJ3 (by have : 500 ≤ n3 := nu_end (x := 500) (by omega) c_65; omega) (by omega)) _ _ hP hD hS ls (lv_sub hl [0, 3, 4, 5, 6, 7, 8] rfl)
                      · skip
                        have c5 : ic < 81 := nu_on (x := 81) (by omega) c_50
                        have n35 : n3 < 500 := nu_on (x := 500) (by omega) c_65
                        have b9 := hq ia a5
                        have b8 := hq ib b5
                        have b7 := hq ic c5
                        refine lv_lload hx hb d_M_collect_68 (lv_at hl 1 rfl) ?_
                        refine lv_aload_n hx hb d_M_collect_70 rfl (lv_at hl 5 rfl) ?_
                        refine va_get (D := (dC, dI)) (ci := 3) (v := .ref mQ) (C := "RoomEchoesModel") (T := FT_M) (N := 12) hx hb hts (hi_ in_M) hown hK hP 0 rfl rfl 6 (by decide) (ht_ hts mw430) (fun _ h9 => h9) rfl d_M_collect_71 ?_
                        refine lv_sipush (v := 162) hx hb d_M_collect_74 (by decide) ?_
                        refine lv_iload hx hb d_M_collect_77 (lv_at hl 0 rfl) ?_
                        refine lv_iadd hx hb d_M_collect_79 ?_
                        refine tp_i (nI (162 + ic)) (nI_add 162 ic) ?_
                        refine va_lald hx hb hK hP 1 1 rfl rfl (vp_in_nI (by omega) (by omega)) d_M_collect_80 ?_
                        refine tp_l (sq (162 + ic)) (by rw [nI_clamp (by omega)]) ?_
                        refine lv_ladd hx hb d_M_collect_81 ?_
                        refine tp_l (lN (q0 ia + q1 ib + q2 ic)) (by rw [hs2 ic c5, lN_add]) ?_
                        refine lv_lstore (lv' := [(12, .long (lN (q0 ia + q1 ib + q2 ic))), (11, .int (nI ic)), (9, .long (lN (q0 ia + q1 ib))), (8, .int (nI ib)), (7, .int (nI ia)), (6, .int (nI n3)), (0, .ref aM), (1, .int (nI n0)), (2, .long mo), (4, .long le)]) hx hb d_M_collect_82 hl (by decide) rfl (fun ls hl => ?_)
                        refine lv_lload hx hb d_M_collect_84 (lv_at hl 0 rfl) ?_
                        refine lv_lload hx hb d_M_collect_86 (lv_at hl 9 rfl) ?_
                        refine W.lcmp hx hb d_M_collect_88 ?_
                        refine lv_if_lt (tgt := 125) hx hb d_M_collect_89 (by decide) (fun c_89 => ?_) (fun c_89 => ?_)
                        · rw [lg_cmp_lt] at c_89
                          refine lv_iinc (v := nI (ic + 1)) (lv' := [(11, .int (nI (ic + 1))), (12, .long (lN (q0 ia + q1 ib + q2 ic))), (9, .long (lN (q0 ia + q1 ib))), (8, .int (nI ib)), (7, .int (nI ia)), (6, .int (nI n3)), (0, .ref aM), (1, .int (nI n0)), (2, .long mo), (4, .long le)]) hx hb d_M_collect_125 hl (k := 1) rfl (nI_succ _).symm (by decide) rfl (fun ls hl => ?_)
                          refine lv_goto (tgt := 46) hx hb d_M_collect_128 (by decide) ?_
                          exact ihc (ic + 1) _ _ _ _ _ (by omega) (by omega) (JC_no hJ3 b5 c5 (fun z => by have := (hle (q0 ia + q1 ib + q2 ic) (by omega)).mp c_89; omega)) _ _ hP hD hS ls (lv_sub hl [0, 2, 3, 4, 5, 6, 7, 8, 9] rfl)
                        · rw [lg_cmp_lt] at c_89
                          refine lv_lload hx hb d_M_collect_92 (lv_at hl 0 rfl) ?_
                          refine lv_lload_n hx hb d_M_collect_94 rfl (lv_at hl 8 rfl) ?_
                          refine W.lcmp hx hb d_M_collect_95 ?_
                          refine lv_if_gt (tgt := 125) hx hb d_M_collect_96 (by decide) (fun c_96 => ?_) (fun c_96 => ?_)
                          · rw [lg_cmp_gt] at c_96
                            refine lv_iinc (v := nI (ic + 1)) (lv' := [(11, .int (nI (ic + 1))), (12, .long (lN (q0 ia + q1 ib + q2 ic))), (9, .long (lN (q0 ia + q1 ib))), (8, .int (nI ib)), (7, .int (nI ia)), (6, .int (nI n3)), (0, .ref aM), (1, .int (nI n0)), (2, .long mo), (4, .long le)]) hx hb d_M_collect_125 hl (k := 1) rfl (nI_succ _).symm (by decide) rfl (fun ls hl => ?_)
                            refine lv_goto (tgt := 46) hx hb d_M_collect_128 (by decide) ?_
                            exact ihc (ic + 1) _ _ _ _ _ (by omega) (by omega) (JC_no hJ3 b5 c5 (fun z => by have := (hmo (q0 ia + q1 ib + q2 ic) (by omega)).mpr z.2; rw [pu_le] at this; rw [pu_lt] at c_96; omega)) _ _ hP hD hS ls (lv_sub hl [0, 2, 3, 4, 5, 6, 7, 8, 9] rfl)
                          · rw [lg_cmp_gt] at c_96
                            refine lv_aload_n hx hb d_M_collect_99 rfl (lv_at hl 6 rfl) ?_
                            refine lv_iload hx hb d_M_collect_100 (lv_at hl 5 rfl) ?_
                            refine lv_lload hx hb d_M_collect_102 (lv_at hl 0 rfl) ?_
                            refine lv_iload hx hb d_M_collect_104 (lv_at hl 4 rfl) ?_
                            refine lv_bipush (v := 40) hx hb d_M_collect_106 (by decide) ?_
                            refine lv_isub hx hb d_M_collect_108 ?_
                            refine tp_i (nz ia) (nI_40 a5) ?_
                            refine lv_iload hx hb d_M_collect_109 (lv_at hl 3 rfl) ?_
                            refine lv_bipush (v := 40) hx hb d_M_collect_111 (by decide) ?_
                            refine lv_isub hx hb d_M_collect_113 ?_
                            refine tp_i (nz ib) (nI_40 b5) ?_
                            refine lv_iload hx hb d_M_collect_114 (lv_at hl 1 rfl) ?_
                            refine lv_bipush (v := 40) hx hb d_M_collect_116 (by decide) ?_
                            refine lv_isub hx hb d_M_collect_118 ?_
                            refine tp_i (nz ic) (nI_40 c5) ?_
                            have hPc := hP.sub (ws' := [(aM, .inr (3, [.int th0, .ref mS, .ref mC, .ref mL, .ref mK, .int kn, .ref mQ, .ref mT, .ref mD, .ref mA, .ref mB, .ref mG])), (mD, .inl (cL, 500, .inr (.inl ds3))), (mA, .inl (cI, 500, .inl as3)), (mB, .inl (cI, 500, .inl bs3)), (mG, .inl (cI, 500, .inl cs3))]) [0, 2, 3, 4, 5] rfl
                            have hDc := hD.sub (ws' := [(aM, .inr (3, [.int th0, .ref mS, .ref mC, .ref mL, .ref mK, .int kn, .ref mQ, .ref mT, .ref mD, .ref mA, .ref mB, .ref mG])), (mD, .inl (cL, 500, .inr (.inl ds3))), (mA, .inl (cI, 500, .inl as3)), (mB, .inl (cI, 500, .inl bs3)), (mG, .inl (cI, 500, .inl cs3))]) [0, 2, 3, 4, 5] (by decide) rfl
                            refine wr_cv (wr := [(mQ, .inl (cL, 243, .inr (.inl sq)))]) (w1 := [(aM, .inr (3, [.int th0, .ref mS, .ref mC, .ref mL, .ref mK, .int kn, .ref mQ, .ref mT, .ref mD, .ref mA, .ref mB, .ref mG])), (mD, .inl (cL, 500, .inr (.inl (ins ds3 (mi_p ds3 (lN (q0 ia + q1 ib + q2 ic)) n3) n3 (lN (q0 ia + q1 ib + q2 ic)))))), (mA, .inl (cI, 500, .inl (ins as3 (mi_p ds3 (lN (q0 ia + q1 ib + q2 ic)) n3) n3 (nz ia)))), (mB, .inl (cI, 500, .inl (ins bs3 (mi_p ds3 (lN (q0 ia + q1 ib + q2 ic)) n3) n3 (nz ib)))), (mG, .inl (cI, 500, .inl (ins cs3 (mi_p ds3 (lN (q0 ia + q1 ib + q2 ic)) n3) n3 (nz ic))))]) hP hD hS hA [0, 2, 3, 4, 5] [1] rfl rfl (by decide) (by decide) (va_runV (As := [.int (nI n3), .long (lN (q0 ia + q1 ib + q2 ic)), .int (nz ia), .int (nz ib), .int (nz ic)]) (rest := []) ⟨hx, hb, hml, hown, hts⟩ (c_M_put l dC dI cI cL aM th0 kn mS mC mL mK mQ mT mD mA mB mG ds3 as3 bs3 cs3 n3 (lN (q0 ia + q1 ib + q2 ic)) (nz ia) (nz ib) (nz ic) _ n35) (cwV 5 hts (gi_V mw553 mw550 mw552 mw24 mw33) rfl rfl rfl (by decide +kernel) ⟨Nat.le_of_ble_eq_true rfl, Nat.le_of_ble_eq_true rfl⟩) (wr_V hM hPc hDc rfl rfl rfl) rfl rfl hl.1 rfl (lv_room (Nat.le_of_ble_eq_true rfl)) d_M_collect_119 ⟨Nat.le_of_ble_eq_true rfl, Nat.le_of_ble_eq_true rfl⟩) (fun H locs hP hD hS => ?_)
                            have hP := hP.sub (ws' := [(aM, .inr (3, [.int th0, .ref mS, .ref mC, .ref mL, .ref mK, .int kn, .ref mQ, .ref mT, .ref mD, .ref mA, .ref mB, .ref mG])), (mQ, .inl (cL, 243, .inr (.inl sq))), (mD, .inl (cL, 500, .inr (.inl (ins ds3 (mi_p ds3 (lN (q0 ia + q1 ib + q2 ic)) n3) n3 (lN (q0 ia + q1 ib + q2 ic)))))), (mA, .inl (cI, 500, .inl (ins as3 (mi_p ds3 (lN (q0 ia + q1 ib + q2 ic)) n3) n3 (nz ia)))), (mB, .inl (cI, 500, .inl (ins bs3 (mi_p ds3 (lN (q0 ia + q1 ib + q2 ic)) n3) n3 (nz ib)))), (mG, .inl (cI, 500, .inl (ins cs3 (mi_p ds3 (lN (q0 ia + q1 ib + q2 ic)) n3) n3 (nz ic))))]) [1, 0, 2, 3, 4, 5] rfl
                            have hD := hD.sub (ws' := [(aM, .inr (3, [.int th0, .ref mS, .ref mC, .ref mL, .ref mK, .int kn, .ref mQ, .ref mT, .ref mD, .ref mA, .ref mB, .ref mG])), (mQ, .inl (cL, 243, .inr (.inl sq))), (mD, .inl (cL, 500, .inr (.inl (ins ds3 (mi_p ds3 (lN (q0 ia + q1 ib + q2 ic)) n3) n3 (lN (q0 ia + q1 ib + q2 ic)))))), (mA, .inl (cI, 500, .inl (ins as3 (mi_p ds3 (lN (q0 ia + q1 ib + q2 ic)) n3) n3 (nz ia)))), (mB, .inl (cI, 500, .inl (ins bs3 (mi_p ds3 (lN (q0 ia + q1 ib + q2 ic)) n3) n3 (nz ib)))), (mG, .inl (cI, 500, .inl (ins cs3 (mi_p ds3 (lN (q0 ia + q1 ib + q2 ic)) n3) n3 (nz ic))))]) [1, 0, 2, 3, 4, 5] (by decide) rfl
                            refine lv_iinc (v := nI (n3 + 1)) (lv' := [(6, .int (nI (n3 + 1))), (12, .long (lN (q0 ia + q1 ib + q2 ic))), (11, .int (nI ic)), (9, .long (lN (q0 ia + q1 ib))), (8, .int (nI ib)), (7, .int (nI ia)), (0, .ref aM), (1, .int (nI n0)), (2, .long mo), (4, .long le)]) hx hb d_M_collect_122 hl (k := 5) rfl (nI_succ _).symm (by decide) rfl (fun ls hl => ?_)
                            refine lv_iinc (v := nI (ic + 1)) (lv' := [(11, .int (nI (ic + 1))), (6, .int (nI (n3 + 1))), (12, .long (lN (q0 ia + q1 ib + q2 ic))), (9, .long (lN (q0 ia + q1 ib))), (8, .int (nI ib)), (7, .int (nI ia)), (0, .ref aM), (1, .int (nI n0)), (2, .long mo), (4, .long le)]) hx hb d_M_collect_125 hl (k := 2) rfl (nI_succ _).symm (by decide) rfl (fun ls hl => ?_)
                            refine lv_goto (tgt := 46) hx hb d_M_collect_128 (by decide) ?_
                            exact ihc (ic + 1) (n3 + 1) _ _ _ _ (by omega) (by omega) (JC_put3 hq hJ3 n35 a5 b5 c5 (Nat.not_lt.mp (fun y => c_89 ((hle (q0 ia + q1 ib + q2 ic) (by omega)).mpr y))) ((hmo (q0 ia + q1 ib + q2 ic) (by omega)).mp (by rw [pu_lt] at c_96; rw [pu_le]; omega))) _ _ hP hD hS ls (lv_sub hl [0, 3, 4, 5, 1, 6, 7, 8, 9] rfl)
              exact lpc 82 0 _ _ _ _ _ (by omega) (by omega) hJ2 _ _ hP hD hS ls (lv_sub hl [0, 1, 2, 3, 4, 5, 6, 7, 8] rfl)
        exact lpb 82 0 _ _ _ _ _ (by omega) (by omega) hJ1 _ _ hP hD hS ls (lv_sub hl [0, 1, 2, 3, 4, 5, 6] rfl)
  exact lpa 82 0 _ _ _ _ _ (by omega) (by omega) hJ _ _ hP hD hS ls (lv_sub hl [0, 1, 2, 3, 4, 5] rfl)
