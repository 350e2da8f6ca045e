theorem is_0 {key : Int64} {k : Nat} {r res : Nat → Int64} (hk : k < 2147483648) (h : nI k ≤ 0) (hj : pu_ins key k r = res) : vp_updL r k key = res := by
  have : k = 0 := by
    rw [Int32.le_iff_toInt_le, nI_toInt hk] at h
    have h0 : (0 : Int32).toInt = 0 := rfl
    omega
  subst this
  exact hj
theorem is_1 {key : Int64} {k : Nat} {r res : Nat → Int64} (h : r k ≤ key) (hj : pu_ins key (k + 1) r = res) : vp_updL r (k + 1) key = res := by
  rw [← hj]
  exact (if_neg (fun q => by rw [pu_lt] at q; rw [pu_le] at h; omega)).symm
theorem is_2 {key : Int64} {k : Nat} {r res : Nat → Int64} (h : ¬ r k ≤ key) (hj : pu_ins key (k + 1) r = res) : pu_ins key k (vp_updL r (k + 1) (r k)) = res := by
  rw [← hj]
  exact (if_pos (pu_nle h)).symm

set_option maxHeartbeats 4000000 in
set_option maxRecDepth 100000 in
theorem c_A_insert (l : Launch) (dC : Nat → ClassId) (dI : Nat → Nat → Nat) (cI cL : ClassId) (aA : Nat) (w : Int32) (sc : Int32) (li : Int32) (ar : Nat) (ak : Nat) (r : Nat → Int64) (n : Int32) (fl : Nat) (sz : Nat) (hfl : fl < 81) : Met l y_A_insert w_A_insert ({ frames := 2, cells := 0, slots := 0, locals := 45 }) (wr_P (dC, dI) cI cL [(aA, .inr (0, [.int w, .int sc, .int li, .ref ar, .ref ak])), (ar, .inl (cL, 81, .inr (.inl r)))] sz [.ref aA, .int n, .int (nI fl)]) (wr_v (dC, dI) (va_A [(aA, .inr (0, [.int w, .int sc, .int li, .ref ar, .ref ak])), (ar, .inl (cL, 81, .inr (.inl r)))] sz) [(aA, .inr (0, [.int w, .int sc, .int li, .ref ar, .ref ak])), (ar, .inl (cL, 81, .inr (.inl (pu_ins (j_R_withNumberBelow (j_A_squareTo w sc li n) n) fl r))))]) 0 0 (va_A [(aA, .inr (0, [.int w, .int sc, .int li, .ref ar, .ref ak])), (ar, .inl (cL, 81, .inr (.inl r)))] sz) := by
  refine Met.ofW (cc := b_A_insert) (maxL := 6) (ret := none) (by decide) rfl ?_
  intro p e s m args below meth c s₁ B hml hv
  obtain ⟨rfl, hsz, hP, hM, hD0⟩ := hv
  have hx := B.exec
  have hb := B.bytes
  have hr := B.returns
  have hts := atoms_spec (ws := w_A_insert) B.pre
  have hown : s.vm.findClass "RoomEchoes$Axis" = some m.cls := findClass_of_methodNamed B.named
  have hlocks := B.notSynchronized
  have hK := hM.1
  subst hsz
  have hD := hD0.self (sz := s.heap.size)
  generalize hAe : va_A [(aA, .inr (0, [.int w, .int sc, .int li, .ref ar, .ref ak])), (ar, .inl (cL, 81, .inr (.inl r)))] s.heap.size = A at hD ⊢
  have hA : ∀ q : Nat, s.heap.size ≤ q → A q := fun q h => by rw [← hAe]; exact Or.inr h
  have hS : va_S A s.heap s.heap [] := va_S.rf
  have hP : va_P (dC, dI) vwCl [(aA, .inr (0, [.int w, .int sc, .int li, .ref ar, .ref ak])), (ar, .inl (cL, 81, .inr (.inl r)))] s.heap := hP
  have hl := lv_entry ([.ref aA, .int n, .int (nI fl)]) (n := 6) (Nat.le_of_ble_eq_true rfl)
  rw [lg_entry_eq]
  generalize (lg_sl ([.ref aA, .int n, .int (nI fl)]) ++ List.replicate (6 - (lg_sl ([.ref aA, .int n, .int (nI fl)])).length) Slot.unset).toArray = ls at hl ⊢
  have hl : lv_has ls 6 [(0, .ref aA), (1, .int n), (2, .int (nI fl))] := hl
  refine lv_iload_n hx hb d_A_insert_0 rfl (lv_at hl 2 rfl) ?_
  refine lv_if_lt (tgt := 10) hx hb d_A_insert_1 (by decide) (fun c_1 => ?_) (fun c_1 => ?_)
  · skip
    exact absurd c_1 (nI_pos (by omega))
  · skip
    refine lv_iload_n hx hb d_A_insert_4 rfl (lv_at hl 2 rfl) ?_
    refine lv_bipush (v := 81) hx hb d_A_insert_5 (by decide) ?_
    refine lv_icmp_lt (tgt := 11) hx hb d_A_insert_7 (by decide) (fun c_7 => ?_) (fun c_7 => ?_)
    · skip
      refine lv_aload_n hx hb d_A_insert_11 rfl (lv_at hl 0 rfl) ?_
      refine lv_iload_n hx hb d_A_insert_12 rfl (lv_at hl 1 rfl) ?_
      have hPc := hP.sub (ws' := [(aA, .inr (0, [.int w, .int sc, .int li, .ref ar, .ref ak]))]) [0] rfl
      refine rd_c (va_runV (As := [.int n]) (rest := []) ⟨hx, hb, hml, hown, hts⟩ (c_A_squareTo l dC dI cI cL aA w sc li ar ak n) (cwV 1 hts (gi_V mw242 mw293 mw240 mw241 mw31) rfl rfl rfl (by decide +kernel) ⟨Nat.le_of_ble_eq_true rfl, Nat.le_of_ble_eq_true rfl⟩) (rd_V hM hPc rfl rfl rfl) rfl rfl hl.1 rfl (lv_room (Nat.le_of_ble_eq_true rfl)) d_A_insert_13 ⟨Nat.le_of_ble_eq_true rfl, Nat.le_of_ble_eq_true rfl⟩) ?_
      refine lv_iload_n hx hb d_A_insert_16 rfl (lv_at hl 1 rfl) ?_
      refine rd_c (va_runSN (As := [.long (j_A_squareTo w sc li n), .int n]) (rest := []) ⟨hx, hb, hml, hown, hts⟩ (c_R_withNumberBelow l (j_A_squareTo w sc li n) n) ⟨va_cnB 2 hts (gi_0 mw296) rfl rfl rfl hM.2.2.1 (ht_ hts mw29) (by decide +kernel) ⟨Nat.le_of_ble_eq_true rfl, Nat.le_of_ble_eq_true rfl⟩, ht_ hts mw295, trivial⟩ st_S rfl rfl hl.1 rfl (lv_room (Nat.le_of_ble_eq_true rfl)) d_A_insert_17 ⟨Nat.le_of_ble_eq_true rfl, Nat.le_of_ble_eq_true rfl⟩) ?_
      refine lv_topl (fun key_1 ekey_1 => ?_)
      refine lv_lstore_n (lv' := [(3, .long key_1), (0, .ref aA), (1, .int n), (2, .int (nI fl))]) hx hb d_A_insert_20 rfl hl (by decide) rfl (fun ls hl => ?_)
      refine lv_iload_n hx hb d_A_insert_21 rfl (lv_at hl 3 rfl) ?_
      refine lv_istore (lv' := [(5, .int (nI fl)), (3, .long key_1), (0, .ref aA), (1, .int n), (2, .int (nI fl))]) hx hb d_A_insert_22 hl (by decide) rfl (fun ls hl => ?_)
      have lp : ∀ (n9 : Nat) (k : Nat) (g : Nat → Int64), k < n9 → k ≤ fl → pu_ins key_1 k g = pu_ins (j_R_withNumberBelow (j_A_squareTo w sc li n) n) fl r → ∀ (H : Heap) (locs : List Loc), va_P (dC, dI) vwCl [(aA, .inr (0, [.int w, .int sc, .int li, .ref ar, .ref ak])), (ar, .inl (cL, 81, .inr (.inl g)))] H → va_D A [(aA, .inr (0, [.int w, .int sc, .int li, .ref ar, .ref ak])), (ar, .inl (cL, 81, .inr (.inl g)))] → va_S A s.heap H locs → ∀ (ls : Array Slot), lv_has ls 6 [(5, .int (nI k)), (3, .long key_1), (0, .ref aA), (1, .int n), (2, .int (nI fl))] → W p l e (headSpec w_A_insert ({ frames := 2, cells := 0, slots := 0, locals := 45 })).room s m ([.ref aA, .int n, .int (nI fl)] : List Value).toArray below meth c H locs 0 0 (MQ below (wr_v (dC, dI) A [(aA, .inr (0, [.int w, .int sc, .int li, .ref ar, .ref ak])), (ar, .inl (cL, 81, .inr (.inl (pu_ins (j_R_withNumberBelow (j_A_squareTo w sc li n) n) fl r))))]) ([.ref aA, .int n, .int (nI fl)] : List Value).toArray s 0 0 A) (F0 m 24 ls []) := by
        intro n9
        induction n9 with
        | zero => intro k g hn hk hj H locs hP hD hS ls hl; omega
        | succ n9 ih =>
          intro k g hn hk hj H locs hP hD hS ls hl
          refine lv_iload hx hb d_A_insert_24 (lv_at hl 0 rfl) ?_
          refine lv_if_le (tgt := 65) hx hb d_A_insert_26 (by decide) (fun c_26 => ?_) (fun c_26 => ?_)
          · skip
            refine lv_aload_n hx hb d_A_insert_65 rfl (lv_at hl 2 rfl) ?_
            refine va_get (D := (dC, dI)) (ci := 0) (v := .ref ar) (C := "RoomEchoes$Axis") (T := FT_A) (N := 5) hx hb hts (hi_ in_A) hown hK hP 0 rfl rfl 3 (by decide) (ht_ hts mw82) (fun _ h9 => h9) rfl d_A_insert_66 ?_
            refine lv_iload hx hb d_A_insert_69 (lv_at hl 0 rfl) ?_
            refine lv_lload_n hx hb d_A_insert_71 rfl (lv_at hl 1 rfl) ?_
            refine va_last hx hb hK hP hD hS 1 1 rfl rfl (vp_in_nI (by omega) (by omega)) d_A_insert_72 (fun H locs hP hD hS => ?_)
            rw [nI_clamp (n := k) (by omega)] at hP hD
            have hP : va_P (dC, dI) vwCl [(aA, .inr (0, [.int w, .int sc, .int li, .ref ar, .ref ak])), (ar, .inl (cL, 81, .inr (.inl (vp_updL g k key_1))))] H := hP
            have hD : va_D A [(aA, .inr (0, [.int w, .int sc, .int li, .ref ar, .ref ak])), (ar, .inl (cL, 81, .inr (.inl (vp_updL g k key_1))))] := hD
            have e9 : vp_updL g k key_1 = pu_ins (j_R_withNumberBelow (j_A_squareTo w sc li n) n) fl r := is_0 (by omega) c_26 hj
            rw [e9] at hP hD
            have hP9 : va_P (dC, dI) vwCl [(aA, .inr (0, [.int w, .int sc, .int li, .ref ar, .ref ak])), (ar, .inl (cL, 81, .inr (.inl (pu_ins (j_R_withNumberBelow (j_A_squareTo w sc li n) n) fl r))))] H := hP
            have hD9 : va_D A [(aA, .inr (0, [.int w, .int sc, .int li, .ref ar, .ref ak])), (ar, .inl (cL, 81, .inr (.inl (pu_ins (j_R_withNumberBelow (j_A_squareTo w sc li n) n) fl r))))] := hD
            exact W.vret hx hb hr (fun t ht hW => ⟨⟨(), rfl, trivial, by rw [ht]; exact hP9, hD9⟩, hS.F ht⟩) hS.2.2 d_A_insert_73
          · skip
            obtain ⟨j, rfl⟩ : ∃ j, k = j + 1 := ⟨k - 1, by have : k ≠ 0 := fun q => c_26 (by rw [q]; decide); omega⟩
            refine lv_aload_n hx hb d_A_insert_29 rfl (lv_at hl 2 rfl) ?_
            refine va_get (D := (dC, dI)) (ci := 0) (v := .ref ar) (C := "RoomEchoes$Axis") (T := FT_A) (N := 5) hx hb hts (hi_ in_A) hown hK hP 0 rfl rfl 3 (by decide) (ht_ hts mw82) (fun _ h9 => h9) rfl d_A_insert_30 ?_
            refine lv_iload hx hb d_A_insert_33 (lv_at hl 0 rfl) ?_
            refine lv_iconst (v := 1) hx hb d_A_insert_35 (by decide) ?_
            refine lv_isub hx hb d_A_insert_36 ?_
            refine tp_i (nI j) (nI_pred j) ?_
            refine va_lald hx hb hK hP 1 1 rfl rfl (vp_in_nI (by omega) (by omega)) d_A_insert_37 ?_
            refine tp_l (g j) (by rw [nI_clamp (by omega)]) ?_
            refine lv_lload_n hx hb d_A_insert_38 rfl (lv_at hl 1 rfl) ?_
            refine W.lcmp hx hb d_A_insert_39 ?_
            refine lv_if_le (tgt := 65) hx hb d_A_insert_40 (by decide) (fun c_40 => ?_) (fun c_40 => ?_)
            · rw [lg_cmp_le] at c_40
              refine lv_aload_n hx hb d_A_insert_65 rfl (lv_at hl 2 rfl) ?_
              refine va_get (D := (dC, dI)) (ci := 0) (v := .ref ar) (C := "RoomEchoes$Axis") (T := FT_A) (N := 5) hx hb hts (hi_ in_A) hown hK hP 0 rfl rfl 3 (by decide) (ht_ hts mw82) (fun _ h9 => h9) rfl d_A_insert_66 ?_
              refine lv_iload hx hb d_A_insert_69 (lv_at hl 0 rfl) ?_
              refine lv_lload_n hx hb d_A_insert_71 rfl (lv_at hl 1 rfl) ?_
              refine va_last hx hb hK hP hD hS 1 1 rfl rfl (vp_in_nI (by omega) (by omega)) d_A_insert_72 (fun H locs hP hD hS => ?_)
              rw [nI_clamp (n := (j + 1)) (by omega)] at hP hD
              have hP : va_P (dC, dI) vwCl [(aA, .inr (0, [.int w, .int sc, .int li, .ref ar, .ref ak])), (ar, .inl (cL, 81, .inr (.inl (vp_updL g (j + 1) key_1))))] H := hP
              have hD : va_D A [(aA, .inr (0, [.int w, .int sc, .int li, .ref ar, .ref ak])), (ar, .inl (cL, 81, .inr (.inl (vp_updL g (j + 1) key_1))))] := hD
              have e9 : vp_updL g (j + 1) key_1 = pu_ins (j_R_withNumberBelow (j_A_squareTo w sc li n) n) fl r := is_1 c_40 hj
              rw [e9] at hP hD
              have hP9 : va_P (dC, dI) vwCl [(aA, .inr (0, [.int w, .int sc, .int li, .ref ar, .ref ak])), (ar, .inl (cL, 81, .inr (.inl (pu_ins (j_R_withNumberBelow (j_A_squareTo w sc li n) n) fl r))))] H := hP
              have hD9 : va_D A [(aA, .inr (0, [.int w, .int sc, .int li, .ref ar, .ref ak])), (ar, .inl (cL, 81, .inr (.inl (pu_ins (j_R_withNumberBelow (j_A_squareTo w sc li n) n) fl r))))] := hD
              exact W.vret hx hb hr (fun t ht hW => ⟨⟨(), rfl, trivial, by rw [ht]; exact hP9, hD9⟩, hS.F ht⟩) hS.2.2 d_A_insert_73
            · rw [lg_cmp_le] at c_40
              refine lv_aload_n hx hb d_A_insert_43 rfl (lv_at hl 2 rfl) ?_
              refine va_get (D := (dC, dI)) (ci := 0) (v := .ref ar) (C := "RoomEchoes$Axis") (T := FT_A) (N := 5) hx hb hts (hi_ in_A) hown hK hP 0 rfl rfl 3 (by decide) (ht_ hts mw82) (fun _ h9 => h9) rfl d_A_insert_44 ?_
              refine lv_iload hx hb d_A_insert_47 (lv_at hl 0 rfl) ?_
              refine lv_aload_n hx hb d_A_insert_49 rfl (lv_at hl 2 rfl) ?_
              refine va_get (D := (dC, dI)) (ci := 0) (v := .ref ar) (C := "RoomEchoes$Axis") (T := FT_A) (N := 5) hx hb hts (hi_ in_A) hown hK hP 0 rfl rfl 3 (by decide) (ht_ hts mw82) (fun _ h9 => h9) rfl d_A_insert_50 ?_
              refine lv_iload hx hb d_A_insert_53 (lv_at hl 0 rfl) ?_
              refine lv_iconst (v := 1) hx hb d_A_insert_55 (by decide) ?_
              refine lv_isub hx hb d_A_insert_56 ?_
              refine tp_i (nI j) (nI_pred j) ?_
              refine va_lald hx hb hK hP 1 1 rfl rfl (vp_in_nI (by omega) (by omega)) d_A_insert_57 ?_
              refine tp_l (g j) (by rw [nI_clamp (by omega)]) ?_
              refine va_last hx hb hK hP hD hS 1 1 rfl rfl (vp_in_nI (by omega) (by omega)) d_A_insert_58 (fun H locs hP hD hS => ?_)
              rw [nI_clamp (n := (j + 1)) (by omega)] at hP hD
              have hP : va_P (dC, dI) vwCl [(aA, .inr (0, [.int w, .int sc, .int li, .ref ar, .ref ak])), (ar, .inl (cL, 81, .inr (.inl (vp_updL g (j + 1) (g j)))))] H := hP
              have hD : va_D A [(aA, .inr (0, [.int w, .int sc, .int li, .ref ar, .ref ak])), (ar, .inl (cL, 81, .inr (.inl (vp_updL g (j + 1) (g j)))))] := hD
              refine lv_iinc (v := nI j) (lv' := [(5, .int (nI j)), (3, .long key_1), (0, .ref aA), (1, .int n), (2, .int (nI fl))]) hx hb d_A_insert_59 hl (k := 0) rfl (pk_m1 _) (by decide) rfl (fun ls hl => ?_)
              refine lv_goto (tgt := 24) hx hb d_A_insert_62 (by decide) ?_
              exact ih j _ (by omega) (by omega) (is_2 c_40 hj) _ _ hP hD hS ls (lv_sub hl [0, 1, 2, 3, 4] rfl)
      exact lp (fl + 1) fl r (by omega) (Nat.le_refl _) (by rw [ekey_1]) _ _ hP hD hS ls (lv_sub hl [0, 1, 2, 3, 4] rfl)
    · skip
      exact absurd (show nI fl < nI 81 from nI_lt (by omega) (by omega)) c_7

def j_axK (w sc li : Int32) (z : Int) : Int64 := j_R_withNumberBelow (j_A_squareTo w sc li (Int32.ofInt z)) (Int32.ofInt z)
def j_rk (r : Nat → Int64) (k : Nat → Int32) : Nat → (Nat → Int32)
  | 0 => k
  | i + 1 => if j_A_numberAt r (nI i) + 40 < 0 then j_rk r k i else if 81 ≤ j_A_numberAt r (nI i) + 40 then j_rk r k i else upd (j_rk r k i) (j_A_numberAt r (nI i) + 40).toNatClampNeg (nI i)
theorem j_rk_s (r : Nat → Int64) (k : Nat → Int32) (i : Nat) : j_rk r k (i + 1) = if j_A_numberAt r (nI i) + 40 < 0 then j_rk r k i else if 81 ≤ j_A_numberAt r (nI i) + 40 then j_rk r k i else upd (j_rk r k i) (j_A_numberAt r (nI i) + 40).toNatClampNeg (nI i) := rfl
theorem nu_pos (a : Nat) : nI (a + 1) = Int32.ofInt ((a : Int) + 1) := rfl
theorem nu_neg (a : Nat) : -(nI (a + 1)) = Int32.ofInt (-((a : Int) + 1)) := by
  rw [nu_pos]
  exact (Int32.ofInt_neg _).symm
theorem nu_2m (a : Nat) : 2 * nI (a + 1) - 1 = nI (2 * a + 1) := by
  rw [show (2 : Int32) = nI 2 from rfl, pk_mul, show 2 * (a + 1) = 2 * a + 1 + 1 by omega, nI_pred]
theorem nu_2 (a : Nat) : 2 * nI (a + 1) = nI (2 * a + 2) := by
  rw [show (2 : Int32) = nI 2 from rfl, pk_mul]
  rfl

set_option maxHeartbeats 4000000 in
set_option maxRecDepth 100000 in
theorem c_A_order (l : Launch) (dC : Nat → ClassId) (dI : Nat → Nat → Nat) (cI cL : ClassId) (aA : Nat) (w : Int32) (sc : Int32) (li : Int32) (ar : Nat) (ak : Nat) (r : Nat → Int64) (kk : Nat → Int32) (sz : Nat) : Met l y_A_order w_A_order ({ frames := 3, cells := 0, slots := 0, locals := 70 }) (wr_P (dC, dI) cI cL [(aA, .inr (0, [.int w, .int sc, .int li, .ref ar, .ref ak])), (ar, .inl (cL, 81, .inr (.inl r))), (ak, .inl (cI, 81, .inl kk))] sz [.ref aA]) (wr_v (dC, dI) (va_A [(aA, .inr (0, [.int w, .int sc, .int li, .ref ar, .ref ak])), (ar, .inl (cL, 81, .inr (.inl r))), (ak, .inl (cI, 81, .inl kk))] sz) [(aA, .inr (0, [.int w, .int sc, .int li, .ref ar, .ref ak])), (ar, .inl (cL, 81, .inr (.inl (pu_ord (j_axK w sc li) r 40)))), (ak, .inl (cI, 81, .inl (j_rk (pu_ord (j_axK w sc li) r 40) kk 81)))]) 0 0 (va_A [(aA, .inr (0, [.int w, .int sc, .int li, .ref ar, .ref ak])), (ar, .inl (cL, 81, .inr (.inl r))), (ak, .inl (cI, 81, .inl kk))] sz) := by
  refine Met.ofW (cc := b_A_order) (maxL := 3) (ret := none) (by decide) rfl ?_
  intro p e s m args below meth c s₁ B hml hv
  obtain ⟨rfl, hsz, hP, hM, hD0⟩ := hv
  have hx := B.exec
  have hb := B.bytes
  have hr := B.returns
  have hts := atoms_spec (ws := w_A_order) B.pre
  have hown : s.vm.findClass "RoomEchoes$Axis" = some m.cls := findClass_of_methodNamed B.named
  have hlocks := B.notSynchronized
  have hK := hM.1
  subst hsz
  have hD := hD0.self (sz := s.heap.size)
  generalize hAe : va_A [(aA, .inr (0, [.int w, .int sc, .int li, .ref ar, .ref ak])), (ar, .inl (cL, 81, .inr (.inl r))), (ak, .inl (cI, 81, .inl kk))] s.heap.size = A at hD ⊢
  have hA : ∀ q : Nat, s.heap.size ≤ q → A q := fun q h => by rw [← hAe]; exact Or.inr h
  have hS : va_S A s.heap s.heap [] := va_S.rf
  have hP : va_P (dC, dI) vwCl [(aA, .inr (0, [.int w, .int sc, .int li, .ref ar, .ref ak])), (ar, .inl (cL, 81, .inr (.inl r))), (ak, .inl (cI, 81, .inl kk))] s.heap := hP
  have hl := lv_entry ([.ref aA]) (n := 3) (Nat.le_of_ble_eq_true rfl)
  rw [lg_entry_eq]
  generalize (lg_sl ([.ref aA]) ++ List.replicate (3 - (lg_sl ([.ref aA])).length) Slot.unset).toArray = ls at hl ⊢
  have hl : lv_has ls 3 [(0, .ref aA)] := hl
  refine lv_aload_n hx hb d_A_order_0 rfl (lv_at hl 0 rfl) ?_
  refine lv_iconst (v := 0) hx hb d_A_order_1 (by decide) ?_
  refine tp_i (Int32.ofInt 0) rfl ?_
  refine lv_iconst (v := 0) hx hb d_A_order_2 (by decide) ?_
  have hPc := hP.sub (ws' := [(aA, .inr (0, [.int w, .int sc, .int li, .ref ar, .ref ak])), (ar, .inl (cL, 81, .inr (.inl r)))]) [0, 1] rfl
  have hDc := hD.sub (ws' := [(aA, .inr (0, [.int w, .int sc, .int li, .ref ar, .ref ak])), (ar, .inl (cL, 81, .inr (.inl r)))]) [0, 1] (by decide) rfl
  refine wr_cv (wr := [(ak, .inl (cI, 81, .inl kk))]) (w1 := [(aA, .inr (0, [.int w, .int sc, .int li, .ref ar, .ref ak])), (ar, .inl (cL, 81, .inr (.inl (pu_ins (j_R_withNumberBelow (j_A_squareTo w sc li (Int32.ofInt 0)) (Int32.ofInt 0)) 0 r))))]) hP hD hS hA [0, 1] [2] rfl rfl (by decide) (by decide) (va_runV (As := [.int (Int32.ofInt 0), .int 0]) (rest := []) ⟨hx, hb, hml, hown, hts⟩ (c_A_insert l dC dI cI cL aA w sc li ar ak r (Int32.ofInt 0) 0 _ (by omega)) (cwV 2 hts (gi_V mw292 mw289 mw291 mw7 mw31) rfl rfl rfl (by decide +kernel) ⟨Nat.le_of_ble_eq_true rfl, Nat.le_of_ble_eq_true rfl⟩) (wr_V hM hPc hDc rfl rfl rfl) rfl rfl hl.1 rfl (lv_room (Nat.le_of_ble_eq_true rfl)) d_A_order_3 ⟨Nat.le_of_ble_eq_true rfl, Nat.le_of_ble_eq_true rfl⟩) (fun H locs hP hD hS => ?_)
  have hP := hP.sub (ws' := [(aA, .inr (0, [.int w, .int sc, .int li, .ref ar, .ref ak])), (ar, .inl (cL, 81, .inr (.inl (pu_ins (j_R_withNumberBelow (j_A_squareTo w sc li (Int32.ofInt 0)) (Int32.ofInt 0)) 0 r)))), (ak, .inl (cI, 81, .inl kk))]) [1, 2, 0] rfl
  have hD := hD.sub (ws' := [(aA, .inr (0, [.int w, .int sc, .int li, .ref ar, .ref ak])), (ar, .inl (cL, 81, .inr (.inl (pu_ins (j_R_withNumberBelow (j_A_squareTo w sc li (Int32.ofInt 0)) (Int32.ofInt 0)) 0 r)))), (ak, .inl (cI, 81, .inl kk))]) [1, 2, 0] (by decide) rfl
  refine lv_iconst (v := 1) hx hb d_A_order_6 (by decide) ?_
  refine lv_istore_n (lv' := [(1, .int 1), (0, .ref aA)]) hx hb d_A_order_7 rfl hl (by decide) rfl (fun ls hl => ?_)
  have lp : ∀ (n9 : Nat) (a : Nat), 40 < a + n9 → a ≤ 40 → ∀ (H : Heap) (locs : List Loc), va_P (dC, dI) vwCl [(aA, .inr (0, [.int w, .int sc, .int li, .ref ar, .ref ak])), (ar, .inl (cL, 81, .inr (.inl (pu_ord (j_axK w sc li) r a)))), (ak, .inl (cI, 81, .inl kk))] H → va_D A [(aA, .inr (0, [.int w, .int sc, .int li, .ref ar, .ref ak])), (ar, .inl (cL, 81, .inr (.inl (pu_ord (j_axK w sc li) r a)))), (ak, .inl (cI, 81, .inl kk))] → va_S A s.heap H locs → ∀ (ls : Array Slot), lv_has ls 3 [(1, .int (nI (a + 1))), (0, .ref aA)] → W p l e (headSpec w_A_order ({ frames := 3, cells := 0, slots := 0, locals := 70 })).room s m ([.ref aA] : List Value).toArray below meth c H locs 0 0 (MQ below (wr_v (dC, dI) A [(aA, .inr (0, [.int w, .int sc, .int li, .ref ar, .ref ak])), (ar, .inl (cL, 81, .inr (.inl (pu_ord (j_axK w sc li) r 40)))), (ak, .inl (cI, 81, .inl (j_rk (pu_ord (j_axK w sc li) r 40) kk 81)))]) ([.ref aA] : List Value).toArray s 0 0 A) (F0 m 8 ls []) := by
    intro n9
    induction n9 with
    | zero => intro a hn ha H locs hP hD hS ls hl; omega
    | succ n9 ih =>
      intro a hn ha H locs hP hD hS ls hl
      refine lv_iload_n hx hb d_A_order_8 rfl (lv_at hl 0 rfl) ?_
      refine lv_bipush (v := 40) hx hb d_A_order_9 (by decide) ?_
      refine lv_icmp_gt (tgt := 39) hx hb d_A_order_11 (by decide) (fun c_11 => ?_) (fun c_11 => ?_)
      · skip
        refine lv_iconst (v := 0) hx hb d_A_order_39 (by decide) ?_
        refine lv_istore_n (lv' := [(1, .int 0), (0, .ref aA)]) hx hb d_A_order_40 rfl hl (by decide) rfl (fun ls hl => ?_)
        have a40 : a = 40 := by have h9 : nI 40 < nI (a + 1) := c_11; rw [nI_ltI (by omega) (by omega)] at h9; omega
        rw [a40] at hP hD
        have lq : ∀ (n9 : Nat) (i : Nat), 81 < i + n9 → i ≤ 81 → ∀ (H : Heap) (locs : List Loc), va_P (dC, dI) vwCl [(aA, .inr (0, [.int w, .int sc, .int li, .ref ar, .ref ak])), (ar, .inl (cL, 81, .inr (.inl (pu_ord (j_axK w sc li) r 40)))), (ak, .inl (cI, 81, .inl (j_rk (pu_ord (j_axK w sc li) r 40) kk i)))] H → va_D A [(aA, .inr (0, [.int w, .int sc, .int li, .ref ar, .ref ak])), (ar, .inl (cL, 81, .inr (.inl (pu_ord (j_axK w sc li) r 40)))), (ak, .inl (cI, 81, .inl (j_rk (pu_ord (j_axK w sc li) r 40) kk i)))] → va_S A s.heap H locs → ∀ (ls : Array Slot), lv_has ls 3 [(1, .int (nI i)), (0, .ref aA)] → W p l e (headSpec w_A_order ({ frames := 3, cells := 0, slots := 0, locals := 70 })).room s m ([.ref aA] : List Value).toArray below meth c H locs 0 0 (MQ below (wr_v (dC, dI) A [(aA, .inr (0, [.int w, .int sc, .int li, .ref ar, .ref ak])), (ar, .inl (cL, 81, .inr (.inl (pu_ord (j_axK w sc li) r 40)))), (ak, .inl (cI, 81, .inl (j_rk (pu_ord (j_axK w sc li) r 40) kk 81)))]) ([.ref aA] : List Value).toArray s 0 0 A) (F0 m 41 ls []) := by
          intro n9
          induction n9 with
          | zero => intro i hn hi H locs hP hD hS ls hl; omega
          | succ n9 ih =>
            intro i hn hi H locs hP hD hS ls hl
            refine lv_iload_n hx hb d_A_order_41 rfl (lv_at hl 0 rfl) ?_
            refine lv_bipush (v := 81) hx hb d_A_order_42 (by decide) ?_
            refine lv_icmp_ge (tgt := 79) hx hb d_A_order_44 (by decide) (fun c_44 => ?_) (fun c_44 => ?_)
            · skip
              have e9 : i = 81 := by have h9 : nI 81 ≤ nI i := c_44; rw [nI_leI (by omega) (by omega)] at h9; omega
              rw [e9] at hP hD
              have hP9 := hP
              have hD9 := hD
              exact W.vret hx hb hr (fun t ht hW => ⟨⟨(), rfl, trivial, by rw [ht]; exact hP9, hD9⟩, hS.F ht⟩) hS.2.2 d_A_order_79
            · skip
              have i5 : i < 81 := by have h9 : ¬ nI 81 ≤ nI i := c_44; rw [nI_leI (by omega) (by omega)] at h9; omega
              refine lv_aload_n hx hb d_A_order_47 rfl (lv_at hl 1 rfl) ?_
              refine lv_iload_n hx hb d_A_order_48 rfl (lv_at hl 0 rfl) ?_
              have hPc := hP.sub (ws' := [(aA, .inr (0, [.int w, .int sc, .int li, .ref ar, .ref ak])), (ar, .inl (cL, 81, .inr (.inl (pu_ord (j_axK w sc li) r 40))))]) [0, 1] rfl
              refine rd_c (va_runV (As := [.int (nI i)]) (rest := []) ⟨hx, hb, hml, hown, hts⟩ (c_A_numberAt l dC dI cI cL aA w sc li ar ak (pu_ord (j_axK w sc li) r 40) (nI i)) (cwV 1 hts (gi_V mw300 mw297 mw298 mw299 mw31) rfl rfl rfl (by decide +kernel) ⟨Nat.le_of_ble_eq_true rfl, Nat.le_of_ble_eq_true rfl⟩) (rd_V hM hPc rfl rfl rfl) rfl rfl hl.1 rfl (lv_room (Nat.le_of_ble_eq_true rfl)) d_A_order_49 ⟨Nat.le_of_ble_eq_true rfl, Nat.le_of_ble_eq_true rfl⟩) ?_
              refine lv_bipush (v := 40) hx hb d_A_order_52 (by decide) ?_
              refine lv_iadd hx hb d_A_order_54 ?_
              refine lv_istore_n (lv' := [(2, .int ((j_A_numberAt (pu_ord (j_axK w sc li) r 40) (nI i)) + 40)), (1, .int (nI i)), (0, .ref aA)]) hx hb d_A_order_55 rfl hl (by decide) rfl (fun ls hl => ?_)
              refine lv_iload_n hx hb d_A_order_56 rfl (lv_at hl 0 rfl) ?_
              refine lv_if_lt (tgt := 73) hx hb d_A_order_57 (by decide) (fun c_57 => ?_) (fun c_57 => ?_)
              · skip
                refine lv_iinc (v := nI (i + 1)) (lv' := [(1, .int (nI (i + 1))), (2, .int ((j_A_numberAt (pu_ord (j_axK w sc li) r 40) (nI i)) + 40)), (0, .ref aA)]) hx hb d_A_order_73 hl (k := 1) rfl (nI_succ _).symm (by decide) rfl (fun ls hl => ?_)
                refine lv_goto (tgt := 41) hx hb d_A_order_76 (by decide) ?_
                have e9 : j_rk (pu_ord (j_axK w sc li) r 40) kk i = j_rk (pu_ord (j_axK w sc li) r 40) kk (i + 1) := by rw [j_rk_s, if_pos c_57]
                rw [e9] at hP hD
                exact ih (i + 1) (by omega) (by omega) _ _ hP hD hS ls (lv_sub hl [0, 2] rfl)
              · skip
                refine lv_iload_n hx hb d_A_order_60 rfl (lv_at hl 0 rfl) ?_
                refine lv_bipush (v := 81) hx hb d_A_order_61 (by decide) ?_
                refine lv_icmp_ge (tgt := 73) hx hb d_A_order_63 (by decide) (fun c_63 => ?_) (fun c_63 => ?_)
                · skip
                  refine lv_iinc (v := nI (i + 1)) (lv' := [(1, .int (nI (i + 1))), (2, .int ((j_A_numberAt (pu_ord (j_axK w sc li) r 40) (nI i)) + 40)), (0, .ref aA)]) hx hb d_A_order_73 hl (k := 1) rfl (nI_succ _).symm (by decide) rfl (fun ls hl => ?_)
                  refine lv_goto (tgt := 41) hx hb d_A_order_76 (by decide) ?_
                  have e9 : j_rk (pu_ord (j_axK w sc li) r 40) kk i = j_rk (pu_ord (j_axK w sc li) r 40) kk (i + 1) := by rw [j_rk_s, if_neg c_57, if_pos c_63]
                  rw [e9] at hP hD
                  exact ih (i + 1) (by omega) (by omega) _ _ hP hD hS ls (lv_sub hl [0, 2] rfl)
                · skip
                  refine lv_aload_n hx hb d_A_order_66 rfl (lv_at hl 2 rfl) ?_
                  refine va_get (D := (dC, dI)) (ci := 0) (v := .ref ak) (C := "RoomEchoes$Axis") (T := FT_A) (N := 5) hx hb hts (hi_ in_A) hown hK hP 0 rfl rfl 4 (by decide) (ht_ hts mw83) (fun _ h9 => h9) rfl d_A_order_67 ?_
                  refine lv_iload_n hx hb d_A_order_70 rfl (lv_at hl 0 rfl) ?_
                  refine lv_iload_n hx hb d_A_order_71 rfl (lv_at hl 1 rfl) ?_
                  refine va_iast hx hb hK hP hD hS 2 0 rfl rfl (in_ge c_57 c_63 rfl) d_A_order_72 (fun H locs hP hD hS => ?_)
                  have hP : va_P (dC, dI) vwCl [(aA, .inr (0, [.int w, .int sc, .int li, .ref ar, .ref ak])), (ar, .inl (cL, 81, .inr (.inl (pu_ord (j_axK w sc li) r 40)))), (ak, .inl (cI, 81, .inl (upd (j_rk (pu_ord (j_axK w sc li) r 40) kk i) ((j_A_numberAt (pu_ord (j_axK w sc li) r 40) (nI i)) + 40).toNatClampNeg (nI i))))] H := hP
                  have hD : va_D A [(aA, .inr (0, [.int w, .int sc, .int li, .ref ar, .ref ak])), (ar, .inl (cL, 81, .inr (.inl (pu_ord (j_axK w sc li) r 40)))), (ak, .inl (cI, 81, .inl (upd (j_rk (pu_ord (j_axK w sc li) r 40) kk i) ((j_A_numberAt (pu_ord (j_axK w sc li) r 40) (nI i)) + 40).toNatClampNeg (nI i))))] := hD
                  refine lv_iinc (v := nI (i + 1)) (lv' := [(1, .int (nI (i + 1))), (2, .int ((j_A_numberAt (pu_ord (j_axK w sc li) r 40) (nI i)) + 40)), (0, .ref aA)]) hx hb d_A_order_73 hl (k := 1) rfl (nI_succ _).symm (by decide) rfl (fun ls hl => ?_)
                  refine lv_goto (tgt := 41) hx hb d_A_order_76 (by decide) ?_
                  have e9 : upd (j_rk (pu_ord (j_axK w sc li) r 40) kk i) ((j_A_numberAt (pu_ord (j_axK w sc li) r 40) (nI i)) + 40).toNatClampNeg (nI i) = j_rk (pu_ord (j_axK w sc li) r 40) kk (i + 1) := by rw [j_rk_s, if_neg c_57, if_neg c_63]
                  rw [e9] at hP hD
                  exact ih (i + 1) (by omega) (by omega) _ _ hP hD hS ls (lv_sub hl [0, 2] rfl)
        exact lq 82 0 (by omega) (by omega) _ _ hP hD hS ls (lv_sub hl [0, 1] rfl)
      · skip
        have a39 : a < 40 := by have h9 : ¬ nI 40 < nI (a + 1) := c_11; rw [nI_ltI (by omega) (by omega)] at h9; omega
        refine lv_aload_n hx hb d_A_order_14 rfl (lv_at hl 1 rfl) ?_
        refine lv_iload_n hx hb d_A_order_15 rfl (lv_at hl 0 rfl) ?_
        refine lv_ineg hx hb d_A_order_16 ?_
        refine tp_i (Int32.ofInt (-((a : Int) + 1))) (nu_neg a) ?_
        refine lv_iconst (v := 2) hx hb d_A_order_17 (by decide) ?_
        refine lv_iload_n hx hb d_A_order_18 rfl (lv_at hl 0 rfl) ?_
        refine lv_imul hx hb d_A_order_19 ?_
        refine lv_iconst (v := 1) hx hb d_A_order_20 (by decide) ?_
        refine lv_isub hx hb d_A_order_21 ?_
        refine tp_i (nI (2 * a + 1)) (nu_2m a) ?_
        have hPc := hP.sub (ws' := [(aA, .inr (0, [.int w, .int sc, .int li, .ref ar, .ref ak])), (ar, .inl (cL, 81, .inr (.inl (pu_ord (j_axK w sc li) r a))))]) [0, 1] rfl
        have hDc := hD.sub (ws' := [(aA, .inr (0, [.int w, .int sc, .int li, .ref ar, .ref ak])), (ar, .inl (cL, 81, .inr (.inl (pu_ord (j_axK w sc li) r a))))]) [0, 1] (by decide) rfl
        refine wr_cv (wr := [(ak, .inl (cI, 81, .inl kk))]) (w1 := [(aA, .inr (0, [.int w, .int sc, .int li, .ref ar, .ref ak])), (ar, .inl (cL, 81, .inr (.inl (pu_ins (j_R_withNumberBelow (j_A_squareTo w sc li (Int32.ofInt (-((a : Int) + 1)))) (Int32.ofInt (-((a : Int) + 1)))) (2 * a + 1) (pu_ord (j_axK w sc li) r a)))))]) hP hD hS hA [0, 1] [2] rfl rfl (by decide) (by decide) (va_runV (As := [.int (Int32.ofInt (-((a : Int) + 1))), .int (nI (2 * a + 1))]) (rest := []) ⟨hx, hb, hml, hown, hts⟩ (c_A_insert l dC dI cI cL aA w sc li ar ak (pu_ord (j_axK w sc li) r a) (Int32.ofInt (-((a : Int) + 1))) (2 * a + 1) _ (by omega)) (cwV 2 hts (gi_V mw292 mw289 mw291 mw7 mw31) rfl rfl rfl (by decide +kernel) ⟨Nat.le_of_ble_eq_true rfl, Nat.le_of_ble_eq_true rfl⟩) (wr_V hM hPc hDc rfl rfl rfl) rfl rfl hl.1 rfl (lv_room (Nat.le_of_ble_eq_true rfl)) d_A_order_22 ⟨Nat.le_of_ble_eq_true rfl, Nat.le_of_ble_eq_true rfl⟩) (fun H locs hP hD hS => ?_)
        have hP := hP.sub (ws' := [(aA, .inr (0, [.int w, .int sc, .int li, .ref ar, .ref ak])), (ar, .inl (cL, 81, .inr (.inl (pu_ins (j_R_withNumberBelow (j_A_squareTo w sc li (Int32.ofInt (-((a : Int) + 1)))) (Int32.ofInt (-((a : Int) + 1)))) (2 * a + 1) (pu_ord (j_axK w sc li) r a))))), (ak, .inl (cI, 81, .inl kk))]) [1, 2, 0] rfl
        have hD := hD.sub (ws' := [(aA, .inr (0, [.int w, .int sc, .int li, .ref ar, .ref ak])), (ar, .inl (cL, 81, .inr (.inl (pu_ins (j_R_withNumberBelow (j_A_squareTo w sc li (Int32.ofInt (-((a : Int) + 1)))) (Int32.ofInt (-((a : Int) + 1)))) (2 * a + 1) (pu_ord (j_axK w sc li) r a))))), (ak, .inl (cI, 81, .inl kk))]) [1, 2, 0] (by decide) rfl
        refine lv_aload_n hx hb d_A_order_25 rfl (lv_at hl 1 rfl) ?_
        refine lv_iload_n hx hb d_A_order_26 rfl (lv_at hl 0 rfl) ?_
        refine tp_i (Int32.ofInt ((a : Int) + 1)) (nu_pos a) ?_
        refine lv_iconst (v := 2) hx hb d_A_order_27 (by decide) ?_
        refine lv_iload_n hx hb d_A_order_28 rfl (lv_at hl 0 rfl) ?_
        refine lv_imul hx hb d_A_order_29 ?_
        refine tp_i (nI (2 * a + 2)) (nu_2 a) ?_
        have hPc := hP.sub (ws' := [(aA, .inr (0, [.int w, .int sc, .int li, .ref ar, .ref ak])), (ar, .inl (cL, 81, .inr (.inl (pu_ins (j_R_withNumberBelow (j_A_squareTo w sc li (Int32.ofInt (-((a : Int) + 1)))) (Int32.ofInt (-((a : Int) + 1)))) (2 * a + 1) (pu_ord (j_axK w sc li) r a)))))]) [0, 1] rfl
        have hDc := hD.sub (ws' := [(aA, .inr (0, [.int w, .int sc, .int li, .ref ar, .ref ak])), (ar, .inl (cL, 81, .inr (.inl (pu_ins (j_R_withNumberBelow (j_A_squareTo w sc li (Int32.ofInt (-((a : Int) + 1)))) (Int32.ofInt (-((a : Int) + 1)))) (2 * a + 1) (pu_ord (j_axK w sc li) r a)))))]) [0, 1] (by decide) rfl
        refine wr_cv (wr := [(ak, .inl (cI, 81, .inl kk))]) (w1 := [(aA, .inr (0, [.int w, .int sc, .int li, .ref ar, .ref ak])), (ar, .inl (cL, 81, .inr (.inl (pu_ins (j_R_withNumberBelow (j_A_squareTo w sc li (Int32.ofInt ((a : Int) + 1))) (Int32.ofInt ((a : Int) + 1))) (2 * a + 2) (pu_ins (j_R_withNumberBelow (j_A_squareTo w sc li (Int32.ofInt (-((a : Int) + 1)))) (Int32.ofInt (-((a : Int) + 1)))) (2 * a + 1) (pu_ord (j_axK w sc li) r a))))))]) hP hD hS hA [0, 1] [2] rfl rfl (by decide) (by decide) (va_runV (As := [.int (Int32.ofInt ((a : Int) + 1)), .int (nI (2 * a + 2))]) (rest := []) ⟨hx, hb, hml, hown, hts⟩ (c_A_insert l dC dI cI cL aA w sc li ar ak (pu_ins (j_R_withNumberBelow (j_A_squareTo w sc li (Int32.ofInt (-((a : Int) + 1)))) (Int32.ofInt (-((a : Int) + 1)))) (2 * a + 1) (pu_ord (j_axK w sc li) r a)) (Int32.ofInt ((a : Int) + 1)) (2 * a + 2) _ (by omega)) (cwV 2 hts (gi_V mw292 mw289 mw291 mw7 mw31) rfl rfl rfl (by decide +kernel) ⟨Nat.le_of_ble_eq_true rfl, Nat.le_of_ble_eq_true rfl⟩) (wr_V hM hPc hDc rfl rfl rfl) rfl rfl hl.1 rfl (lv_room (Nat.le_of_ble_eq_true rfl)) d_A_order_30 ⟨Nat.le_of_ble_eq_true rfl, Nat.le_of_ble_eq_true rfl⟩) (fun H locs hP hD hS => ?_)
        have hP := hP.sub (ws' := [(aA, .inr (0, [.int w, .int sc, .int li, .ref ar, .ref ak])), (ar, .inl (cL, 81, .inr (.inl (pu_ins (j_R_withNumberBelow (j_A_squareTo w sc li (Int32.ofInt ((a : Int) + 1))) (Int32.ofInt ((a : Int) + 1))) (2 * a + 2) (pu_ins (j_R_withNumberBelow (j_A_squareTo w sc li (Int32.ofInt (-((a : Int) + 1)))) (Int32.ofInt (-((a : Int) + 1)))) (2 * a + 1) (pu_ord (j_axK w sc li) r a)))))), (ak, .inl (cI, 81, .inl kk))]) [1, 2, 0] rfl
        have hD := hD.sub (ws' := [(aA, .inr (0, [.int w, .int sc, .int li, .ref ar, .ref ak])), (ar, .inl (cL, 81, .inr (.inl (pu_ins (j_R_withNumberBelow (j_A_squareTo w sc li (Int32.ofInt ((a : Int) + 1))) (Int32.ofInt ((a : Int) + 1))) (2 * a + 2) (pu_ins (j_R_withNumberBelow (j_A_squareTo w sc li (Int32.ofInt (-((a : Int) + 1)))) (Int32.ofInt (-((a : Int) + 1)))) (2 * a + 1) (pu_ord (j_axK w sc li) r a)))))), (ak, .inl (cI, 81, .inl kk))]) [1, 2, 0] (by decide) rfl
        refine lv_iinc (v := nI (a + 1 + 1)) (lv' := [(1, .int (nI (a + 1 + 1))), (0, .ref aA)]) hx hb d_A_order_33 hl (k := 0) rfl (nI_succ _).symm (by decide) rfl (fun ls hl => ?_)
        refine lv_goto (tgt := 8) hx hb d_A_order_36 (by decide) ?_
        have hP : va_P (dC, dI) vwCl [(aA, .inr (0, [.int w, .int sc, .int li, .ref ar, .ref ak])), (ar, .inl (cL, 81, .inr (.inl (pu_ord (j_axK w sc li) r (a + 1))))), (ak, .inl (cI, 81, .inl kk))] H := hP
        have hD : va_D A [(aA, .inr (0, [.int w, .int sc, .int li, .ref ar, .ref ak])), (ar, .inl (cL, 81, .inr (.inl (pu_ord (j_axK w sc li) r (a + 1))))), (ak, .inl (cI, 81, .inl kk))] := hD
        exact ih (a + 1) (by omega) (by omega) _ _ hP hD hS ls (lv_sub hl [0, 1] rfl)
  exact lp 41 0 (by omega) (by omega) _ _ hP hD hS ls (lv_sub hl [0, 1] rfl)
