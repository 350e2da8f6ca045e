theorem nu_half {j : Nat} (h : j < 2147483648) : nI j / 2 = nI (j / 2) := by
  rw [show (2 : Int32) = nI 2 from rfl]
  exact pk_div h (by decide) (by decide)
theorem nu_21 (t : Nat) : 2 * nI t + 1 = nI (2 * t + 1) := by
  rw [show (2 : Int32) = nI 2 from rfl, pk_mul, nI_1]
theorem fu_0 {key : Int64} {d k : Nat} {r res : Nat → Int64} (hk : k < 2147483648) (h : nI k ≤ 0) (hj : pu_up key (d + 1) k r = res) : vp_updL r k key = res := by
  have : k = 0 := by
    rw [Int32.le_iff_toInt_le, nI_toInt hk] at h
    have h0 : (0 : Int32).toInt = 0 := rfl
    omega
  rw [← hj]
  exact (if_neg (by omega)).symm
theorem fu_1 {key : Int64} {d k : Nat} {r res : Nat → Int64} (h : r (k / 2) ≤ key) (hj : pu_up key (d + 1) (k + 1) r = res) : vp_updL r (k + 1) key = res := by
  rw [← hj]
  exact (if_neg (fun q => by have q2 : key < r (k / 2) := q.2; rw [pu_lt] at q2; rw [pu_le] at h; omega)).symm
theorem fu_2 {key : Int64} {d k : Nat} {r res : Nat → Int64} (h : ¬ r (k / 2) ≤ key) (hj : pu_up key (d + 1) (k + 1) r = res) : pu_up key d (k / 2) (vp_updL r (k + 1) (r (k / 2))) = res := by
  rw [← hj]
  exact (if_pos (c := 0 < k + 1 ∧ key < r ((k + 1 - 1) / 2)) ⟨by omega, pu_nle h⟩).symm

set_option maxHeartbeats 4000000 in
set_option maxRecDepth 100000 in
theorem c_F_add (l : Launch) (dC : Nat → ClassId) (dI : Nat → Nat → Nat) (cI cL : ClassId) (aF : Nat) (ak : Nat) (n : Nat) (f : Nat → Int64) (key : Int64) (sz : Nat) (hn : n < 1001) : Met l y_F_add w_F_add ({ frames := 0, cells := 0, slots := 0, locals := 0 }) (wr_P (dC, dI) cI cL [(aF, .inr (1, [.ref ak, .int (nI n)])), (ak, .inl (cL, 1001, .inr (.inl f)))] sz [.ref aF, .long key]) (wr_v (dC, dI) (va_A [(aF, .inr (1, [.ref ak, .int (nI n)])), (ak, .inl (cL, 1001, .inr (.inl f)))] sz) [(aF, .inr (1, [.ref ak, .int (nI (n + 1))])), (ak, .inl (cL, 1001, .inr (.inl (pu_up key (n + 1) n f))))]) 0 0 (va_A [(aF, .inr (1, [.ref ak, .int (nI n)])), (ak, .inl (cL, 1001, .inr (.inl f)))] sz) := by
  refine Met.ofW (cc := b_F_add) (maxL := 4) (ret := none) (by decide) rfl ?_
  intro p e s m args below meth c s₁ B hml hv
  obtain ⟨rfl, hsz, hP, hM, hD0⟩ := hv
  have hx := B.exec
  have hb := B.bytes
  have hr := B.returns
  have hts := atoms_spec (ws := w_F_add) B.pre
  have hown : s.vm.findClass "RoomEchoes$Frontier" = some m.cls := findClass_of_methodNamed B.named
  have hlocks := B.notSynchronized
  have hK := hM.1
  subst hsz
  have hD := hD0.self (sz := s.heap.size)
  generalize hAe : va_A [(aF, .inr (1, [.ref ak, .int (nI n)])), (ak, .inl (cL, 1001, .inr (.inl f)))] s.heap.size = A at hD ⊢
  have hA : ∀ q : Nat, s.heap.size ≤ q → A q := fun q h => by rw [← hAe]; exact Or.inr h
  have hS : va_S A s.heap s.heap [] := va_S.rf
  have hP : va_P (dC, dI) vwCl [(aF, .inr (1, [.ref ak, .int (nI n)])), (ak, .inl (cL, 1001, .inr (.inl f)))] s.heap := hP
  have hl := lv_entry ([.ref aF, .long key]) (n := 4) (Nat.le_of_ble_eq_true rfl)
  rw [lg_entry_eq]
  generalize (lg_sl ([.ref aF, .long key]) ++ List.replicate (4 - (lg_sl ([.ref aF, .long key])).length) Slot.unset).toArray = ls at hl ⊢
  have hl : lv_has ls 4 [(0, .ref aF), (1, .long key)] := hl
  refine lv_aload_n hx hb d_F_add_0 rfl (lv_at hl 0 rfl) ?_
  refine va_get (D := (dC, dI)) (ci := 1) (v := .int (nI n)) (C := "RoomEchoes$Frontier") (T := FT_F) (N := 2) hx hb hts (hi_ in_F) hown hK hP 0 rfl rfl 1 (by decide) (ht_ hts mw53) (fun _ h9 => h9) rfl d_F_add_1 ?_
  refine lv_aload_n hx hb d_F_add_4 rfl (lv_at hl 0 rfl) ?_
  refine va_get (D := (dC, dI)) (ci := 1) (v := .ref ak) (C := "RoomEchoes$Frontier") (T := FT_F) (N := 2) hx hb hts (hi_ in_F) hown hK hP 0 rfl rfl 0 (by decide) (ht_ hts mw52) (fun _ h9 => h9) rfl d_F_add_5 ?_
  refine va_alen (v := 1001) hx hb hK hP 1 1 rfl rfl rfl d_F_add_8 ?_
  refine lv_icmp_lt (tgt := 13) hx hb d_F_add_9 (by decide) (fun c_9 => ?_) (fun c_9 => ?_)
  · skip
    refine lv_aload_n hx hb d_F_add_13 rfl (lv_at hl 0 rfl) ?_
    refine va_get (D := (dC, dI)) (ci := 1) (v := .int (nI n)) (C := "RoomEchoes$Frontier") (T := FT_F) (N := 2) hx hb hts (hi_ in_F) hown hK hP 0 rfl rfl 1 (by decide) (ht_ hts mw53) (fun _ h9 => h9) rfl d_F_add_14 ?_
    refine lv_istore_n (lv' := [(3, .int (nI n)), (0, .ref aF), (1, .long key)]) hx hb d_F_add_17 rfl hl (by decide) rfl (fun ls hl => ?_)
    refine lv_aload_n hx hb d_F_add_18 rfl (lv_at hl 1 rfl) ?_
    refine lv_dup hx hb d_F_add_19 rfl ?_
    refine va_get (D := (dC, dI)) (ci := 1) (v := .int (nI n)) (C := "RoomEchoes$Frontier") (T := FT_F) (N := 2) hx hb hts (hi_ in_F) hown hK hP 0 rfl rfl 1 (by decide) (ht_ hts mw53) (fun _ h9 => h9) rfl d_F_add_20 ?_
    refine lv_iconst (v := 1) hx hb d_F_add_23 (by decide) ?_
    refine lv_iadd hx hb d_F_add_24 ?_
    refine tp_i (nI (n + 1)) (nI_1 n) ?_
    refine va_put (D := (dC, dI)) (ci := 1) (v := .int (nI (n + 1))) (ty := .int) (C := "RoomEchoes$Frontier") (T := FT_F) (N := 2) hx hb hts (hi_ in_F) ty_F tyo_F nm_F hown hK hP hD hS 0 rfl rfl 1 (by decide) (ht_ hts mw53) (fun _ h9 => h9) rfl (by decide +kernel) rfl rfl (Nat.le_of_ble_eq_true rfl) d_F_add_25 (fun H locs hP hD hS => ?_)
    have hP : va_P (dC, dI) vwCl [(aF, .inr (1, [.ref ak, .int (nI (n + 1))])), (ak, .inl (cL, 1001, .inr (.inl f)))] H := hP
    have hD : va_D A [(aF, .inr (1, [.ref ak, .int (nI (n + 1))])), (ak, .inl (cL, 1001, .inr (.inl f)))] := hD
    have lp : ∀ (n9 : Nat) (t : Nat) (g : Nat → Int64), t < n9 → t ≤ n → pu_up key n9 t g = pu_up key (n + 1) n f → ∀ (H : Heap) (locs : List Loc), va_P (dC, dI) vwCl [(aF, .inr (1, [.ref ak, .int (nI (n + 1))])), (ak, .inl (cL, 1001, .inr (.inl g)))] H → va_D A [(aF, .inr (1, [.ref ak, .int (nI (n + 1))])), (ak, .inl (cL, 1001, .inr (.inl g)))] → va_S A s.heap H locs → ∀ (ls : Array Slot), lv_has ls 4 [(3, .int (nI t)), (0, .ref aF), (1, .long key)] → W p l e (headSpec w_F_add ({ frames := 0, cells := 0, slots := 0, locals := 0 })).room s m ([.ref aF, .long key] : List Value).toArray below meth c H locs 0 0 (MQ below (wr_v (dC, dI) A [(aF, .inr (1, [.ref ak, .int (nI (n + 1))])), (ak, .inl (cL, 1001, .inr (.inl (pu_up key (n + 1) n f))))]) ([.ref aF, .long key] : List Value).toArray s 0 0 A) (F0 m 28 ls []) := by
      intro n9
      induction n9 with
      | zero => intro t g ht9 htn hj H locs hP hD hS ls hl; omega
      | succ n9 ih =>
        intro t g ht9 htn hj H locs hP hD hS ls hl
        refine lv_iload_n hx hb d_F_add_28 rfl (lv_at hl 0 rfl) ?_
        refine lv_if_le (tgt := 72) hx hb d_F_add_29 (by decide) (fun c_29 => ?_) (fun c_29 => ?_)
        · skip
          refine lv_aload_n hx hb d_F_add_72 rfl (lv_at hl 1 rfl) ?_
          refine va_get (D := (dC, dI)) (ci := 1) (v := .ref ak) (C := "RoomEchoes$Frontier") (T := FT_F) (N := 2) hx hb hts (hi_ in_F) hown hK hP 0 rfl rfl 0 (by decide) (ht_ hts mw52) (fun _ h9 => h9) rfl d_F_add_73 ?_
          refine lv_iload_n hx hb d_F_add_76 rfl (lv_at hl 0 rfl) ?_
          refine lv_lload_n hx hb d_F_add_77 rfl (lv_at hl 2 rfl) ?_
          refine va_last hx hb hK hP hD hS 1 1 rfl rfl (vp_in_nI (by omega) (by omega)) d_F_add_78 (fun H locs hP hD hS => ?_)
          rw [nI_clamp (n := t) (by omega)] at hP hD
          have hP : va_P (dC, dI) vwCl [(aF, .inr (1, [.ref ak, .int (nI (n + 1))])), (ak, .inl (cL, 1001, .inr (.inl (vp_updL g t key))))] H := hP
          have hD : va_D A [(aF, .inr (1, [.ref ak, .int (nI (n + 1))])), (ak, .inl (cL, 1001, .inr (.inl (vp_updL g t key))))] := hD
          have e9 : vp_updL g t key = pu_up key (n + 1) n f := fu_0 (by omega) c_29 hj
          rw [e9] at hP hD
          have hP9 := hP
          have hD9 := hD
          exact W.vret hx hb hr (fun t ht hW => ⟨⟨(), rfl, trivial, by rw [ht]; exact hP9, hD9⟩, hS.F ht⟩) hS.2.2 d_F_add_79
        · skip
          obtain ⟨j, ej⟩ : ∃ j, t = j + 1 := ⟨t - 1, by have : t ≠ 0 := fun q => c_29 (by rw [q]; decide); omega⟩
          rw [ej] at hl hj
          refine lv_aload_n hx hb d_F_add_32 rfl (lv_at hl 1 rfl) ?_
          refine va_get (D := (dC, dI)) (ci := 1) (v := .ref ak) (C := "RoomEchoes$Frontier") (T := FT_F) (N := 2) hx hb hts (hi_ in_F) hown hK hP 0 rfl rfl 0 (by decide) (ht_ hts mw52) (fun _ h9 => h9) rfl d_F_add_33 ?_
          refine lv_iload_n hx hb d_F_add_36 rfl (lv_at hl 0 rfl) ?_
          refine lv_iconst (v := 1) hx hb d_F_add_37 (by decide) ?_
          refine lv_isub hx hb d_F_add_38 ?_
          refine tp_i (nI j) (nI_pred j) ?_
          refine lv_iconst (v := 2) hx hb d_F_add_39 (by decide) ?_
          refine lv_idiv hx hb d_F_add_40 (by decide) ?_
          refine tp_i (nI (j / 2)) (nu_half (by omega)) ?_
          refine va_lald hx hb hK hP 1 1 rfl rfl (vp_in_nI (by omega) (by omega)) d_F_add_41 ?_
          refine tp_l (g (j / 2)) (by rw [nI_clamp (by omega)]) ?_
          refine lv_lload_n hx hb d_F_add_42 rfl (lv_at hl 2 rfl) ?_
          refine W.lcmp hx hb d_F_add_43 ?_
          refine lv_if_le (tgt := 72) hx hb d_F_add_44 (by decide) (fun c_44 => ?_) (fun c_44 => ?_)
          · rw [lg_cmp_le] at c_44
            refine lv_aload_n hx hb d_F_add_72 rfl (lv_at hl 1 rfl) ?_
            refine va_get (D := (dC, dI)) (ci := 1) (v := .ref ak) (C := "RoomEchoes$Frontier") (T := FT_F) (N := 2) hx hb hts (hi_ in_F) hown hK hP 0 rfl rfl 0 (by decide) (ht_ hts mw52) (fun _ h9 => h9) rfl d_F_add_73 ?_
            refine lv_iload_n hx hb d_F_add_76 rfl (lv_at hl 0 rfl) ?_
            refine lv_lload_n hx hb d_F_add_77 rfl (lv_at hl 2 rfl) ?_
            refine va_last hx hb hK hP hD hS 1 1 rfl rfl (vp_in_nI (by omega) (by omega)) d_F_add_78 (fun H locs hP hD hS => ?_)
            rw [nI_clamp (n := (j + 1)) (by omega)] at hP hD
            have hP : va_P (dC, dI) vwCl [(aF, .inr (1, [.ref ak, .int (nI (n + 1))])), (ak, .inl (cL, 1001, .inr (.inl (vp_updL g (j + 1) key))))] H := hP
            have hD : va_D A [(aF, .inr (1, [.ref ak, .int (nI (n + 1))])), (ak, .inl (cL, 1001, .inr (.inl (vp_updL g (j + 1) key))))] := hD
            have e9 : vp_updL g (j + 1) key = pu_up key (n + 1) n f := fu_1 c_44 hj
            rw [e9] at hP hD
            have hP9 := hP
            have hD9 := hD
            exact W.vret hx hb hr (fun t ht hW => ⟨⟨(), rfl, trivial, by rw [ht]; exact hP9, hD9⟩, hS.F ht⟩) hS.2.2 d_F_add_79
          · rw [lg_cmp_le] at c_44
            refine lv_aload_n hx hb d_F_add_47 rfl (lv_at hl 1 rfl) ?_
            refine va_get (D := (dC, dI)) (ci := 1) (v := .ref ak) (C := "RoomEchoes$Frontier") (T := FT_F) (N := 2) hx hb hts (hi_ in_F) hown hK hP 0 rfl rfl 0 (by decide) (ht_ hts mw52) (fun _ h9 => h9) rfl d_F_add_48 ?_
            refine lv_iload_n hx hb d_F_add_51 rfl (lv_at hl 0 rfl) ?_
            refine lv_aload_n hx hb d_F_add_52 rfl (lv_at hl 1 rfl) ?_
            refine va_get (D := (dC, dI)) (ci := 1) (v := .ref ak) (C := "RoomEchoes$Frontier") (T := FT_F) (N := 2) hx hb hts (hi_ in_F) hown hK hP 0 rfl rfl 0 (by decide) (ht_ hts mw52) (fun _ h9 => h9) rfl d_F_add_53 ?_
            refine lv_iload_n hx hb d_F_add_56 rfl (lv_at hl 0 rfl) ?_
            refine lv_iconst (v := 1) hx hb d_F_add_57 (by decide) ?_
            refine lv_isub hx hb d_F_add_58 ?_
            refine tp_i (nI j) (nI_pred j) ?_
            refine lv_iconst (v := 2) hx hb d_F_add_59 (by decide) ?_
            refine lv_idiv hx hb d_F_add_60 (by decide) ?_
            refine tp_i (nI (j / 2)) (nu_half (by omega)) ?_
            refine va_lald hx hb hK hP 1 1 rfl rfl (vp_in_nI (by omega) (by omega)) d_F_add_61 ?_
            refine tp_l (g (j / 2)) (by rw [nI_clamp (by omega)]) ?_
            refine va_last hx hb hK hP hD hS 1 1 rfl rfl (vp_in_nI (by omega) (by omega)) d_F_add_62 (fun H locs hP hD hS => ?_)
            rw [nI_clamp (n := (j + 1)) (by omega)] at hP hD
            have hP : va_P (dC, dI) vwCl [(aF, .inr (1, [.ref ak, .int (nI (n + 1))])), (ak, .inl (cL, 1001, .inr (.inl (vp_updL g (j + 1) (g (j / 2))))))] H := hP
            have hD : va_D A [(aF, .inr (1, [.ref ak, .int (nI (n + 1))])), (ak, .inl (cL, 1001, .inr (.inl (vp_updL g (j + 1) (g (j / 2))))))] := hD
            refine lv_iload_n hx hb d_F_add_63 rfl (lv_at hl 0 rfl) ?_
            refine lv_iconst (v := 1) hx hb d_F_add_64 (by decide) ?_
            refine lv_isub hx hb d_F_add_65 ?_
            refine tp_i (nI j) (nI_pred j) ?_
            refine lv_iconst (v := 2) hx hb d_F_add_66 (by decide) ?_
            refine lv_idiv hx hb d_F_add_67 (by decide) ?_
            refine tp_i (nI (j / 2)) (nu_half (by omega)) ?_
            refine lv_istore_n (lv' := [(3, .int (nI (j / 2))), (0, .ref aF), (1, .long key)]) hx hb d_F_add_68 rfl hl (by decide) rfl (fun ls hl => ?_)
            refine lv_goto (tgt := 28) hx hb d_F_add_69 (by decide) ?_
            exact ih (j / 2) _ (by omega) (by omega) (fu_2 c_44 hj) _ _ hP hD hS ls (lv_sub hl [0, 1, 2] rfl)
    exact lp (n + 1) n f (by omega) (Nat.le_refl _) rfl _ _ hP hD hS ls (lv_sub hl [0, 1, 2] rfl)
  · skip
    exact absurd (show nI n < nI 1001 from nI_lt (by omega) (by omega)) c_9

theorem fd_0 {key : Int64} {d n k : Nat} {r res : Nat → Int64} (h : ¬ 2 * k + 1 < n) (hj : pu_dn key n (d + 1) k r = res) : vp_updL r k key = res := by
  rw [← hj]
  exact (if_neg h).symm
theorem fd_1 {key : Int64} {d n k : Nat} {r res : Nat → Int64} (h : 2 * k + 1 < n) (h2 : ¬ r (pu_lc n r (2 * k + 1)) < key) (hj : pu_dn key n (d + 1) k r = res) : vp_updL r k key = res := by
  rw [← hj]
  unfold pu_dn
  rw [if_pos h, if_pos (pu_nlt h2)]
theorem fd_2 {key : Int64} {d n k : Nat} {r res : Nat → Int64} (h : 2 * k + 1 < n) (h2 : r (pu_lc n r (2 * k + 1)) < key) (hj : pu_dn key n (d + 1) k r = res) : pu_dn key n d (pu_lc n r (2 * k + 1)) (vp_updL r k (r (pu_lc n r (2 * k + 1)))) = res := by
  rw [← hj]
  show _ = if 2 * k + 1 < n then (if key ≤ r (pu_lc n r (2 * k + 1)) then vp_updL r k key else pu_dn key n d (pu_lc n r (2 * k + 1)) (vp_updL r k (r (pu_lc n r (2 * k + 1))))) else vp_updL r k key
  rw [if_pos h, if_neg (fun q => by rw [pu_lt] at h2; rw [pu_le] at q; omega)]

set_option maxHeartbeats 4000000 in
set_option maxRecDepth 100000 in
theorem c_F_sink (l : Launch) (dC : Nat → ClassId) (dI : Nat → Nat → Nat) (cI cL : ClassId) (aF : Nat) (ak : Nat) (n : Nat) (f : Nat → Int64) (key : Int64) (sz : Nat) (hn : n ≤ 1001) : Met l y_F_sinkFromTop w_F_sinkFromTop ({ frames := 0, cells := 0, slots := 0, locals := 0 }) (wr_P (dC, dI) cI cL [(aF, .inr (1, [.ref ak, .int (nI n)])), (ak, .inl (cL, 1001, .inr (.inl f)))] sz [.ref aF, .long key]) (wr_v (dC, dI) (va_A [(aF, .inr (1, [.ref ak, .int (nI n)])), (ak, .inl (cL, 1001, .inr (.inl f)))] sz) [(aF, .inr (1, [.ref ak, .int (nI n)])), (ak, .inl (cL, 1001, .inr (.inl (pu_dn key n (n + 1) 0 f))))]) 0 0 (va_A [(aF, .inr (1, [.ref ak, .int (nI n)])), (ak, .inl (cL, 1001, .inr (.inl f)))] sz) := by
  refine Met.ofW (cc := b_F_sinkFromTop) (maxL := 5) (ret := none) (by decide) rfl ?_
  intro p e s m args below meth c s₁ B hml hv
  obtain ⟨rfl, hsz, hP, hM, hD0⟩ := hv
  have hx := B.exec
  have hb := B.bytes
  have hr := B.returns
  have hts := atoms_spec (ws := w_F_sinkFromTop) B.pre
  have hown : s.vm.findClass "RoomEchoes$Frontier" = some m.cls := findClass_of_methodNamed B.named
  have hlocks := B.notSynchronized
  have hK := hM.1
  subst hsz
  have hD := hD0.self (sz := s.heap.size)
  generalize hAe : va_A [(aF, .inr (1, [.ref ak, .int (nI n)])), (ak, .inl (cL, 1001, .inr (.inl f)))] s.heap.size = A at hD ⊢
  have hA : ∀ q : Nat, s.heap.size ≤ q → A q := fun q h => by rw [← hAe]; exact Or.inr h
  have hS : va_S A s.heap s.heap [] := va_S.rf
  have hP : va_P (dC, dI) vwCl [(aF, .inr (1, [.ref ak, .int (nI n)])), (ak, .inl (cL, 1001, .inr (.inl f)))] s.heap := hP
  have hl := lv_entry ([.ref aF, .long key]) (n := 5) (Nat.le_of_ble_eq_true rfl)
  rw [lg_entry_eq]
  generalize (lg_sl ([.ref aF, .long key]) ++ List.replicate (5 - (lg_sl ([.ref aF, .long key])).length) Slot.unset).toArray = ls at hl ⊢
  have hl : lv_has ls 5 [(0, .ref aF), (1, .long key)] := hl
  refine lv_iconst (v := 0) hx hb d_F_sinkFromTop_0 (by decide) ?_
  refine lv_istore_n (lv' := [(3, .int 0), (0, .ref aF), (1, .long key)]) hx hb d_F_sinkFromTop_1 rfl hl (by decide) rfl (fun ls hl => ?_)
  refine lv_iconst (v := 1) hx hb d_F_sinkFromTop_2 (by decide) ?_
  refine lv_istore (lv' := [(4, .int 1), (3, .int 0), (0, .ref aF), (1, .long key)]) hx hb d_F_sinkFromTop_3 hl (by decide) rfl (fun ls hl => ?_)
  have lp : ∀ (n9 : Nat) (t : Nat) (g : Nat → Int64), n < t + n9 → t < n ∨ t = 0 → pu_dn key n n9 t g = pu_dn key n (n + 1) 0 f → ∀ (H : Heap) (locs : List Loc), va_P (dC, dI) vwCl [(aF, .inr (1, [.ref ak, .int (nI n)])), (ak, .inl (cL, 1001, .inr (.inl g)))] H → va_D A [(aF, .inr (1, [.ref ak, .int (nI n)])), (ak, .inl (cL, 1001, .inr (.inl g)))] → va_S A s.heap H locs → ∀ (ls : Array Slot), lv_has ls 5 [(4, .int (nI (2 * t + 1))), (3, .int (nI t)), (0, .ref aF), (1, .long key)] → W p l e (headSpec w_F_sinkFromTop ({ frames := 0, cells := 0, slots := 0, locals := 0 })).room s m ([.ref aF, .long key] : List Value).toArray below meth c H locs 0 0 (MQ below (wr_v (dC, dI) A [(aF, .inr (1, [.ref ak, .int (nI n)])), (ak, .inl (cL, 1001, .inr (.inl (pu_dn key n (n + 1) 0 f))))]) ([.ref aF, .long key] : List Value).toArray s 0 0 A) (F0 m 5 ls []) := by
    intro n9
    induction n9 with
    | zero => intro t g ht9 htn hj H locs hP hD hS ls hl; omega
    | succ n9 ih =>
      intro t g ht9 htn hj H locs hP hD hS ls hl
      refine lv_iload hx hb d_F_sinkFromTop_5 (lv_at hl 0 rfl) ?_
      refine lv_aload_n hx hb d_F_sinkFromTop_7 rfl (lv_at hl 2 rfl) ?_
      refine va_get (D := (dC, dI)) (ci := 1) (v := .int (nI n)) (C := "RoomEchoes$Frontier") (T := FT_F) (N := 2) hx hb hts (hi_ in_F) hown hK hP 0 rfl rfl 1 (by decide) (ht_ hts mw53) (fun _ h9 => h9) rfl d_F_sinkFromTop_8 ?_
      refine lv_icmp_ge (tgt := 89) hx hb d_F_sinkFromTop_11 (by decide) (fun c_11 => ?_) (fun c_11 => ?_)
      · skip
        refine lv_aload_n hx hb d_F_sinkFromTop_89 rfl (lv_at hl 2 rfl) ?_
        refine va_get (D := (dC, dI)) (ci := 1) (v := .ref ak) (C := "RoomEchoes$Frontier") (T := FT_F) (N := 2) hx hb hts (hi_ in_F) hown hK hP 0 rfl rfl 0 (by decide) (ht_ hts mw52) (fun _ h9 => h9) rfl d_F_sinkFromTop_90 ?_
        refine lv_iload_n hx hb d_F_sinkFromTop_93 rfl (lv_at hl 1 rfl) ?_
        refine lv_lload_n hx hb d_F_sinkFromTop_94 rfl (lv_at hl 3 rfl) ?_
        refine va_last hx hb hK hP hD hS 1 1 rfl rfl (vp_in_nI (by omega) (by omega)) d_F_sinkFromTop_95 (fun H locs hP hD hS => ?_)
        rw [nI_clamp (n := t) (by omega)] at hP hD
        have hP : va_P (dC, dI) vwCl [(aF, .inr (1, [.ref ak, .int (nI n)])), (ak, .inl (cL, 1001, .inr (.inl (vp_updL g t key))))] H := hP
        have hD : va_D A [(aF, .inr (1, [.ref ak, .int (nI n)])), (ak, .inl (cL, 1001, .inr (.inl (vp_updL g t key))))] := hD
        have e9 : vp_updL g t key = pu_dn key n (n + 1) 0 f := fd_0 (by have h9 : nI n ≤ nI (2 * t + 1) := c_11; rw [nI_leI (by omega) (by omega)] at h9; omega) hj
        rw [e9] at hP hD
        have hP9 := hP
        have hD9 := hD
        exact W.vret hx hb hr (fun t ht hW => ⟨⟨(), rfl, trivial, by rw [ht]; exact hP9, hD9⟩, hS.F ht⟩) hS.2.2 d_F_sinkFromTop_96
      · skip
        have hc : 2 * t + 1 < n := by have h9 : ¬ nI n ≤ nI (2 * t + 1) := c_11; rw [nI_leI (by omega) (by omega)] at h9; omega
        obtain ⟨v1, v2, -, -⟩ := pu_lc_is (f := g) hc
        refine lv_iload hx hb d_F_sinkFromTop_14 (lv_at hl 0 rfl) ?_
        refine lv_iconst (v := 1) hx hb d_F_sinkFromTop_16 (by decide) ?_
        refine lv_iadd hx hb d_F_sinkFromTop_17 ?_
        refine tp_i (nI (2 * t + 1 + 1)) (nI_1 (2 * t + 1)) ?_
        refine lv_aload_n hx hb d_F_sinkFromTop_18 rfl (lv_at hl 2 rfl) ?_
        refine va_get (D := (dC, dI)) (ci := 1) (v := .int (nI n)) (C := "RoomEchoes$Frontier") (T := FT_F) (N := 2) hx hb hts (hi_ in_F) hown hK hP 0 rfl rfl 1 (by decide) (ht_ hts mw53) (fun _ h9 => h9) rfl d_F_sinkFromTop_19 ?_
        refine lv_icmp_ge (tgt := 48) hx hb d_F_sinkFromTop_22 (by decide) (fun c_22 => ?_) (fun c_22 => ?_)
        · skip
          rw [lc_1 (n := n) (l := 2 * t + 1) (f := g) (by omega) (by omega) c_22] at hl
          refine lv_aload_n hx hb d_F_sinkFromTop_48 rfl (lv_at hl 2 rfl) ?_
          refine va_get (D := (dC, dI)) (ci := 1) (v := .ref ak) (C := "RoomEchoes$Frontier") (T := FT_F) (N := 2) hx hb hts (hi_ in_F) hown hK hP 0 rfl rfl 0 (by decide) (ht_ hts mw52) (fun _ h9 => h9) rfl d_F_sinkFromTop_49 ?_
          refine lv_iload hx hb d_F_sinkFromTop_52 (lv_at hl 0 rfl) ?_
          refine va_lald hx hb hK hP 1 1 rfl rfl (vp_in_nI (by omega) (by omega)) d_F_sinkFromTop_54 ?_
          refine tp_l (g (pu_lc n g (2 * t + 1))) (by rw [nI_clamp (by omega)]) ?_
          refine lv_lload_n hx hb d_F_sinkFromTop_55 rfl (lv_at hl 3 rfl) ?_
          refine W.lcmp hx hb d_F_sinkFromTop_56 ?_
          refine lv_if_lt (tgt := 63) hx hb d_F_sinkFromTop_57 (by decide) (fun c_57 => ?_) (fun c_57 => ?_)
          · rw [lg_cmp_lt] at c_57
            refine lv_aload_n hx hb d_F_sinkFromTop_63 rfl (lv_at hl 2 rfl) ?_
            refine va_get (D := (dC, dI)) (ci := 1) (v := .ref ak) (C := "RoomEchoes$Frontier") (T := FT_F) (N := 2) hx hb hts (hi_ in_F) hown hK hP 0 rfl rfl 0 (by decide) (ht_ hts mw52) (fun _ h9 => h9) rfl d_F_sinkFromTop_64 ?_
            refine lv_iload_n hx hb d_F_sinkFromTop_67 rfl (lv_at hl 1 rfl) ?_
            refine lv_aload_n hx hb d_F_sinkFromTop_68 rfl (lv_at hl 2 rfl) ?_
            refine va_get (D := (dC, dI)) (ci := 1) (v := .ref ak) (C := "RoomEchoes$Frontier") (T := FT_F) (N := 2) hx hb hts (hi_ in_F) hown hK hP 0 rfl rfl 0 (by decide) (ht_ hts mw52) (fun _ h9 => h9) rfl d_F_sinkFromTop_69 ?_
            refine lv_iload hx hb d_F_sinkFromTop_72 (lv_at hl 0 rfl) ?_
            refine va_lald hx hb hK hP 1 1 rfl rfl (vp_in_nI (by omega) (by omega)) d_F_sinkFromTop_74 ?_
            refine tp_l (g (pu_lc n g (2 * t + 1))) (by rw [nI_clamp (by omega)]) ?_
            refine va_last hx hb hK hP hD hS 1 1 rfl rfl (vp_in_nI (by omega) (by omega)) d_F_sinkFromTop_75 (fun H locs hP hD hS => ?_)
            rw [nI_clamp (n := t) (by omega)] at hP hD
            have hP : va_P (dC, dI) vwCl [(aF, .inr (1, [.ref ak, .int (nI n)])), (ak, .inl (cL, 1001, .inr (.inl (vp_updL g t (g (pu_lc n g (2 * t + 1)))))))] H := hP
            have hD : va_D A [(aF, .inr (1, [.ref ak, .int (nI n)])), (ak, .inl (cL, 1001, .inr (.inl (vp_updL g t (g (pu_lc n g (2 * t + 1)))))))] := hD
            refine lv_iload hx hb d_F_sinkFromTop_76 (lv_at hl 0 rfl) ?_
            refine lv_istore_n (lv' := [(3, .int (nI (pu_lc n g (2 * t + 1)))), (4, .int (nI (pu_lc n g (2 * t + 1)))), (0, .ref aF), (1, .long key)]) hx hb d_F_sinkFromTop_78 rfl hl (by decide) rfl (fun ls hl => ?_)
            refine lv_iconst (v := 2) hx hb d_F_sinkFromTop_79 (by decide) ?_
            refine lv_iload_n hx hb d_F_sinkFromTop_80 rfl (lv_at hl 0 rfl) ?_
            refine lv_imul hx hb d_F_sinkFromTop_81 ?_
            refine lv_iconst (v := 1) hx hb d_F_sinkFromTop_82 (by decide) ?_
            refine lv_iadd hx hb d_F_sinkFromTop_83 ?_
            refine tp_i (nI (2 * (pu_lc n g (2 * t + 1)) + 1)) (nu_21 _) ?_
            refine lv_istore (lv' := [(4, .int (nI (2 * (pu_lc n g (2 * t + 1)) + 1))), (3, .int (nI (pu_lc n g (2 * t + 1)))), (0, .ref aF), (1, .long key)]) hx hb d_F_sinkFromTop_84 hl (by decide) rfl (fun ls hl => ?_)
            refine lv_goto (tgt := 5) hx hb d_F_sinkFromTop_86 (by decide) ?_
            exact ih (pu_lc n g (2 * t + 1)) _ (by omega) (by omega) (fd_2 hc c_57 hj) _ _ hP hD hS ls (lv_sub hl [0, 1, 2, 3] rfl)
          · rw [lg_cmp_lt] at c_57
            refine lv_goto (tgt := 89) hx hb d_F_sinkFromTop_60 (by decide) ?_
            refine lv_aload_n hx hb d_F_sinkFromTop_89 rfl (lv_at hl 2 rfl) ?_
            refine va_get (D := (dC, dI)) (ci := 1) (v := .ref ak) (C := "RoomEchoes$Frontier") (T := FT_F) (N := 2) hx hb hts (hi_ in_F) hown hK hP 0 rfl rfl 0 (by decide) (ht_ hts mw52) (fun _ h9 => h9) rfl d_F_sinkFromTop_90 ?_
            refine lv_iload_n hx hb d_F_sinkFromTop_93 rfl (lv_at hl 1 rfl) ?_
            refine lv_lload_n hx hb d_F_sinkFromTop_94 rfl (lv_at hl 3 rfl) ?_
            refine va_last hx hb hK hP hD hS 1 1 rfl rfl (vp_in_nI (by omega) (by omega)) d_F_sinkFromTop_95 (fun H locs hP hD hS => ?_)
            rw [nI_clamp (n := t) (by omega)] at hP hD
            have hP : va_P (dC, dI) vwCl [(aF, .inr (1, [.ref ak, .int (nI n)])), (ak, .inl (cL, 1001, .inr (.inl (vp_updL g t key))))] H := hP
            have hD : va_D A [(aF, .inr (1, [.ref ak, .int (nI n)])), (ak, .inl (cL, 1001, .inr (.inl (vp_updL g t key))))] := hD
            have e9 : vp_updL g t key = pu_dn key n (n + 1) 0 f := fd_1 hc c_57 hj
            rw [e9] at hP hD
            have hP9 := hP
            have hD9 := hD
            exact W.vret hx hb hr (fun t ht hW => ⟨⟨(), rfl, trivial, by rw [ht]; exact hP9, hD9⟩, hS.F ht⟩) hS.2.2 d_F_sinkFromTop_96
        · skip
          have l5 : 2 * t + 1 + 1 < n := by have h9 : ¬ nI n ≤ nI (2 * t + 1 + 1) := c_22; rw [nI_leI (by omega) (by omega)] at h9; omega
          refine lv_aload_n hx hb d_F_sinkFromTop_25 rfl (lv_at hl 2 rfl) ?_
          refine va_get (D := (dC, dI)) (ci := 1) (v := .ref ak) (C := "RoomEchoes$Frontier") (T := FT_F) (N := 2) hx hb hts (hi_ in_F) hown hK hP 0 rfl rfl 0 (by decide) (ht_ hts mw52) (fun _ h9 => h9) rfl d_F_sinkFromTop_26 ?_
          refine lv_iload hx hb d_F_sinkFromTop_29 (lv_at hl 0 rfl) ?_
          refine lv_iconst (v := 1) hx hb d_F_sinkFromTop_31 (by decide) ?_
          refine lv_iadd hx hb d_F_sinkFromTop_32 ?_
          refine tp_i (nI (2 * t + 1 + 1)) (nI_1 (2 * t + 1)) ?_
          refine va_lald hx hb hK hP 1 1 rfl rfl (vp_in_nI (by omega) (by omega)) d_F_sinkFromTop_33 ?_
          refine tp_l (g (2 * t + 1 + 1)) (by rw [nI_clamp (by omega)]) ?_
          refine lv_aload_n hx hb d_F_sinkFromTop_34 rfl (lv_at hl 2 rfl) ?_
          refine va_get (D := (dC, dI)) (ci := 1) (v := .ref ak) (C := "RoomEchoes$Frontier") (T := FT_F) (N := 2) hx hb hts (hi_ in_F) hown hK hP 0 rfl rfl 0 (by decide) (ht_ hts mw52) (fun _ h9 => h9) rfl d_F_sinkFromTop_35 ?_
          refine lv_iload hx hb d_F_sinkFromTop_38 (lv_at hl 0 rfl) ?_
          refine va_lald hx hb hK hP 1 1 rfl rfl (vp_in_nI (by omega) (by omega)) d_F_sinkFromTop_40 ?_
          refine tp_l (g (2 * t + 1)) (by rw [nI_clamp (by omega)]) ?_
          refine W.lcmp hx hb d_F_sinkFromTop_41 ?_
          refine lv_if_ge (tgt := 48) hx hb d_F_sinkFromTop_42 (by decide) (fun c_42 => ?_) (fun c_42 => ?_)
          · rw [lg_cmp_ge] at c_42
            rw [lc_2 (n := n) (l := 2 * t + 1) (f := g) c_42] at hl
            refine lv_aload_n hx hb d_F_sinkFromTop_48 rfl (lv_at hl 2 rfl) ?_
            refine va_get (D := (dC, dI)) (ci := 1) (v := .ref ak) (C := "RoomEchoes$Frontier") (T := FT_F) (N := 2) hx hb hts (hi_ in_F) hown hK hP 0 rfl rfl 0 (by decide) (ht_ hts mw52) (fun _ h9 => h9) rfl d_F_sinkFromTop_49 ?_
            refine lv_iload hx hb d_F_sinkFromTop_52 (lv_at hl 0 rfl) ?_
            refine va_lald hx hb hK hP 1 1 rfl rfl (vp_in_nI (by omega) (by omega)) d_F_sinkFromTop_54 ?_
            refine tp_l (g (pu_lc n g (2 * t + 1))) (by rw [nI_clamp (by omega)]) ?_
            refine lv_lload_n hx hb d_F_sinkFromTop_55 rfl (lv_at hl 3 rfl) ?_
            refine W.lcmp hx hb d_F_sinkFromTop_56 ?_
            refine lv_if_lt (tgt := 63) hx hb d_F_sinkFromTop_57 (by decide) (fun c_57 => ?_) (fun c_57 => ?_)
            · rw [lg_cmp_lt] at c_57
              refine lv_aload_n hx hb d_F_sinkFromTop_63 rfl (lv_at hl 2 rfl) ?_
              refine va_get (D := (dC, dI)) (ci := 1) (v := .ref ak) (C := "RoomEchoes$Frontier") (T := FT_F) (N := 2) hx hb hts (hi_ in_F) hown hK hP 0 rfl rfl 0 (by decide) (ht_ hts mw52) (fun _ h9 => h9) rfl d_F_sinkFromTop_64 ?_
              refine lv_iload_n hx hb d_F_sinkFromTop_67 rfl (lv_at hl 1 rfl) ?_
              refine lv_aload_n hx hb d_F_sinkFromTop_68 rfl (lv_at hl 2 rfl) ?_
              refine va_get (D := (dC, dI)) (ci := 1) (v := .ref ak) (C := "RoomEchoes$Frontier") (T := FT_F) (N := 2) hx hb hts (hi_ in_F) hown hK hP 0 rfl rfl 0 (by decide) (ht_ hts mw52) (fun _ h9 => h9) rfl d_F_sinkFromTop_69 ?_
              refine lv_iload hx hb d_F_sinkFromTop_72 (lv_at hl 0 rfl) ?_
              refine va_lald hx hb hK hP 1 1 rfl rfl (vp_in_nI (by omega) (by omega)) d_F_sinkFromTop_74 ?_
              refine tp_l (g (pu_lc n g (2 * t + 1))) (by rw [nI_clamp (by omega)]) ?_
              refine va_last hx hb hK hP hD hS 1 1 rfl rfl (vp_in_nI (by omega) (by omega)) d_F_sinkFromTop_75 (fun H locs hP hD hS => ?_)
              rw [nI_clamp (n := t) (by omega)] at hP hD
              have hP : va_P (dC, dI) vwCl [(aF, .inr (1, [.ref ak, .int (nI n)])), (ak, .inl (cL, 1001, .inr (.inl (vp_updL g t (g (pu_lc n g (2 * t + 1)))))))] H := hP
              have hD : va_D A [(aF, .inr (1, [.ref ak, .int (nI n)])), (ak, .inl (cL, 1001, .inr (.inl (vp_updL g t (g (pu_lc n g (2 * t + 1)))))))] := hD
              refine lv_iload hx hb d_F_sinkFromTop_76 (lv_at hl 0 rfl) ?_
              refine lv_istore_n (lv' := [(3, .int (nI (pu_lc n g (2 * t + 1)))), (4, .int (nI (pu_lc n g (2 * t + 1)))), (0, .ref aF), (1, .long key)]) hx hb d_F_sinkFromTop_78 rfl hl (by decide) rfl (fun ls hl => ?_)
              refine lv_iconst (v := 2) hx hb d_F_sinkFromTop_79 (by decide) ?_
              refine lv_iload_n hx hb d_F_sinkFromTop_80 rfl (lv_at hl 0 rfl) ?_
              refine lv_imul hx hb d_F_sinkFromTop_81 ?_
              refine lv_iconst (v := 1) hx hb d_F_sinkFromTop_82 (by decide) ?_
              refine lv_iadd hx hb d_F_sinkFromTop_83 ?_
              refine tp_i (nI (2 * (pu_lc n g (2 * t + 1)) + 1)) (nu_21 _) ?_
              refine lv_istore (lv' := [(4, .int (nI (2 * (pu_lc n g (2 * t + 1)) + 1))), (3, .int (nI (pu_lc n g (2 * t + 1)))), (0, .ref aF), (1, .long key)]) hx hb d_F_sinkFromTop_84 hl (by decide) rfl (fun ls hl => ?_)
              refine lv_goto (tgt := 5) hx hb d_F_sinkFromTop_86 (by decide) ?_
              exact ih (pu_lc n g (2 * t + 1)) _ (by omega) (by omega) (fd_2 hc c_57 hj) _ _ hP hD hS ls (lv_sub hl [0, 1, 2, 3] rfl)
            · rw [lg_cmp_lt] at c_57
              refine lv_goto (tgt := 89) hx hb d_F_sinkFromTop_60 (by decide) ?_
              refine lv_aload_n hx hb d_F_sinkFromTop_89 rfl (lv_at hl 2 rfl) ?_
              refine va_get (D := (dC, dI)) (ci := 1) (v := .ref ak) (C := "RoomEchoes$Frontier") (T := FT_F) (N := 2) hx hb hts (hi_ in_F) hown hK hP 0 rfl rfl 0 (by decide) (ht_ hts mw52) (fun _ h9 => h9) rfl d_F_sinkFromTop_90 ?_
              refine lv_iload_n hx hb d_F_sinkFromTop_93 rfl (lv_at hl 1 rfl) ?_
              refine lv_lload_n hx hb d_F_sinkFromTop_94 rfl (lv_at hl 3 rfl) ?_
              refine va_last hx hb hK hP hD hS 1 1 rfl rfl (vp_in_nI (by omega) (by omega)) d_F_sinkFromTop_95 (fun H locs hP hD hS => ?_)
              rw [nI_clamp (n := t) (by omega)] at hP hD
              have hP : va_P (dC, dI) vwCl [(aF, .inr (1, [.ref ak, .int (nI n)])), (ak, .inl (cL, 1001, .inr (.inl (vp_updL g t key))))] H := hP
              have hD : va_D A [(aF, .inr (1, [.ref ak, .int (nI n)])), (ak, .inl (cL, 1001, .inr (.inl (vp_updL g t key))))] := hD
              have e9 : vp_updL g t key = pu_dn key n (n + 1) 0 f := fd_1 hc c_57 hj
              rw [e9] at hP hD
              have hP9 := hP
              have hD9 := hD
              exact W.vret hx hb hr (fun t ht hW => ⟨⟨(), rfl, trivial, by rw [ht]; exact hP9, hD9⟩, hS.F ht⟩) hS.2.2 d_F_sinkFromTop_96
          · rw [lg_cmp_ge] at c_42
            refine lv_iinc (v := nI (2 * t + 1 + 1)) (lv' := [(4, .int (nI (2 * t + 1 + 1))), (3, .int (nI t)), (0, .ref aF), (1, .long key)]) hx hb d_F_sinkFromTop_45 hl (k := 0) rfl (nI_succ _).symm (by decide) rfl (fun ls hl => ?_)
            rw [lc_3 (n := n) (l := 2 * t + 1) (f := g) (by omega) (by omega) c_22 c_42] at hl
            refine lv_aload_n hx hb d_F_sinkFromTop_48 rfl (lv_at hl 2 rfl) ?_
            refine va_get (D := (dC, dI)) (ci := 1) (v := .ref ak) (C := "RoomEchoes$Frontier") (T := FT_F) (N := 2) hx hb hts (hi_ in_F) hown hK hP 0 rfl rfl 0 (by decide) (ht_ hts mw52) (fun _ h9 => h9) rfl d_F_sinkFromTop_49 ?_
            refine lv_iload hx hb d_F_sinkFromTop_52 (lv_at hl 0 rfl) ?_
            refine va_lald hx hb hK hP 1 1 rfl rfl (vp_in_nI (by omega) (by omega)) d_F_sinkFromTop_54 ?_
            refine tp_l (g (pu_lc n g (2 * t + 1))) (by rw [nI_clamp (by omega)]) ?_
            refine lv_lload_n hx hb d_F_sinkFromTop_55 rfl (lv_at hl 3 rfl) ?_
            refine W.lcmp hx hb d_F_sinkFromTop_56 ?_
            refine lv_if_lt (tgt := 63) hx hb d_F_sinkFromTop_57 (by decide) (fun c_57 => ?_) (fun c_57 => ?_)
            · rw [lg_cmp_lt] at c_57
              refine lv_aload_n hx hb d_F_sinkFromTop_63 rfl (lv_at hl 2 rfl) ?_
              refine va_get (D := (dC, dI)) (ci := 1) (v := .ref ak) (C := "RoomEchoes$Frontier") (T := FT_F) (N := 2) hx hb hts (hi_ in_F) hown hK hP 0 rfl rfl 0 (by decide) (ht_ hts mw52) (fun _ h9 => h9) rfl d_F_sinkFromTop_64 ?_
              refine lv_iload_n hx hb d_F_sinkFromTop_67 rfl (lv_at hl 1 rfl) ?_
              refine lv_aload_n hx hb d_F_sinkFromTop_68 rfl (lv_at hl 2 rfl) ?_
              refine va_get (D := (dC, dI)) (ci := 1) (v := .ref ak) (C := "RoomEchoes$Frontier") (T := FT_F) (N := 2) hx hb hts (hi_ in_F) hown hK hP 0 rfl rfl 0 (by decide) (ht_ hts mw52) (fun _ h9 => h9) rfl d_F_sinkFromTop_69 ?_
              refine lv_iload hx hb d_F_sinkFromTop_72 (lv_at hl 0 rfl) ?_
              refine va_lald hx hb hK hP 1 1 rfl rfl (vp_in_nI (by omega) (by omega)) d_F_sinkFromTop_74 ?_
              refine tp_l (g (pu_lc n g (2 * t + 1))) (by rw [nI_clamp (by omega)]) ?_
              refine va_last hx hb hK hP hD hS 1 1 rfl rfl (vp_in_nI (by omega) (by omega)) d_F_sinkFromTop_75 (fun H locs hP hD hS => ?_)
              rw [nI_clamp (n := t) (by omega)] at hP hD
              have hP : va_P (dC, dI) vwCl [(aF, .inr (1, [.ref ak, .int (nI n)])), (ak, .inl (cL, 1001, .inr (.inl (vp_updL g t (g (pu_lc n g (2 * t + 1)))))))] H := hP
              have hD : va_D A [(aF, .inr (1, [.ref ak, .int (nI n)])), (ak, .inl (cL, 1001, .inr (.inl (vp_updL g t (g (pu_lc n g (2 * t + 1)))))))] := hD
              refine lv_iload hx hb d_F_sinkFromTop_76 (lv_at hl 0 rfl) ?_
              refine lv_istore_n (lv' := [(3, .int (nI (pu_lc n g (2 * t + 1)))), (4, .int (nI (pu_lc n g (2 * t + 1)))), (0, .ref aF), (1, .long key)]) hx hb d_F_sinkFromTop_78 rfl hl (by decide) rfl (fun ls hl => ?_)
              refine lv_iconst (v := 2) hx hb d_F_sinkFromTop_79 (by decide) ?_
              refine lv_iload_n hx hb d_F_sinkFromTop_80 rfl (lv_at hl 0 rfl) ?_
              refine lv_imul hx hb d_F_sinkFromTop_81 ?_
              refine lv_iconst (v := 1) hx hb d_F_sinkFromTop_82 (by decide) ?_
              refine lv_iadd hx hb d_F_sinkFromTop_83 ?_
              refine tp_i (nI (2 * (pu_lc n g (2 * t + 1)) + 1)) (nu_21 _) ?_
              refine lv_istore (lv' := [(4, .int (nI (2 * (pu_lc n g (2 * t + 1)) + 1))), (3, .int (nI (pu_lc n g (2 * t + 1)))), (0, .ref aF), (1, .long key)]) hx hb d_F_sinkFromTop_84 hl (by decide) rfl (fun ls hl => ?_)
              refine lv_goto (tgt := 5) hx hb d_F_sinkFromTop_86 (by decide) ?_
              exact ih (pu_lc n g (2 * t + 1)) _ (by omega) (by omega) (fd_2 hc c_57 hj) _ _ hP hD hS ls (lv_sub hl [0, 1, 2, 3] rfl)
            · rw [lg_cmp_lt] at c_57
              refine lv_goto (tgt := 89) hx hb d_F_sinkFromTop_60 (by decide) ?_
              refine lv_aload_n hx hb d_F_sinkFromTop_89 rfl (lv_at hl 2 rfl) ?_
              refine va_get (D := (dC, dI)) (ci := 1) (v := .ref ak) (C := "RoomEchoes$Frontier") (T := FT_F) (N := 2) hx hb hts (hi_ in_F) hown hK hP 0 rfl rfl 0 (by decide) (ht_ hts mw52) (fun _ h9 => h9) rfl d_F_sinkFromTop_90 ?_
              refine lv_iload_n hx hb d_F_sinkFromTop_93 rfl (lv_at hl 1 rfl) ?_
              refine lv_lload_n hx hb d_F_sinkFromTop_94 rfl (lv_at hl 3 rfl) ?_
              refine va_last hx hb hK hP hD hS 1 1 rfl rfl (vp_in_nI (by omega) (by omega)) d_F_sinkFromTop_95 (fun H locs hP hD hS => ?_)
              rw [nI_clamp (n := t) (by omega)] at hP hD
              have hP : va_P (dC, dI) vwCl [(aF, .inr (1, [.ref ak, .int (nI n)])), (ak, .inl (cL, 1001, .inr (.inl (vp_updL g t key))))] H := hP
              have hD : va_D A [(aF, .inr (1, [.ref ak, .int (nI n)])), (ak, .inl (cL, 1001, .inr (.inl (vp_updL g t key))))] := hD
              have e9 : vp_updL g t key = pu_dn key n (n + 1) 0 f := fd_1 hc c_57 hj
              rw [e9] at hP hD
              have hP9 := hP
              have hD9 := hD
              exact W.vret hx hb hr (fun t ht hW => ⟨⟨(), rfl, trivial, by rw [ht]; exact hP9, hD9⟩, hS.F ht⟩) hS.2.2 d_F_sinkFromTop_96
  exact lp (n + 1) 0 f (by omega) (Or.inr rfl) rfl _ _ hP hD hS ls (lv_sub hl [0, 1, 2, 3] rfl)

set_option maxHeartbeats 4000000 in
set_option maxRecDepth 100000 in
theorem c_F_take (l : Launch) (dC : Nat → ClassId) (dI : Nat → Nat → Nat) (cI cL : ClassId) (aF : Nat) (ak : Nat) (n : Nat) (f : Nat → Int64) (sz : Nat) (hn : n < 1001) : Met l y_F_takeLeast w_F_takeLeast ({ frames := 1, cells := 0, slots := 0, locals := 24 }) (wr_P (dC, dI) cI cL [(aF, .inr (1, [.ref ak, .int (nI (n + 1))])), (ak, .inl (cL, 1001, .inr (.inl f)))] sz [.ref aF]) (wr_l (f 0) (dC, dI) (va_A [(aF, .inr (1, [.ref ak, .int (nI (n + 1))])), (ak, .inl (cL, 1001, .inr (.inl f)))] sz) [(aF, .inr (1, [.ref ak, .int (nI n)])), (ak, .inl (cL, 1001, .inr (.inl (pu_dn (f n) n (n + 1) 0 f))))]) 0 0 (va_A [(aF, .inr (1, [.ref ak, .int (nI (n + 1))])), (ak, .inl (cL, 1001, .inr (.inl f)))] sz) := by
  refine Met.ofW (cc := b_F_takeLeast) (maxL := 3) (ret := (some .long)) (by decide) rfl ?_
  intro p e s m args below meth c s₁ B hml hv
  obtain ⟨rfl, hsz, hP, hM, hD0⟩ := hv
  have hx := B.exec
  have hb := B.bytes
  have hr := B.returns
  have hts := atoms_spec (ws := w_F_takeLeast) B.pre
  have hown : s.vm.findClass "RoomEchoes$Frontier" = some m.cls := findClass_of_methodNamed B.named
  have hlocks := B.notSynchronized
  have hK := hM.1
  subst hsz
  have hD := hD0.self (sz := s.heap.size)
  generalize hAe : va_A [(aF, .inr (1, [.ref ak, .int (nI (n + 1))])), (ak, .inl (cL, 1001, .inr (.inl f)))] s.heap.size = A at hD ⊢
  have hA : ∀ q : Nat, s.heap.size ≤ q → A q := fun q h => by rw [← hAe]; exact Or.inr h
  have hS : va_S A s.heap s.heap [] := va_S.rf
  have hP : va_P (dC, dI) vwCl [(aF, .inr (1, [.ref ak, .int (nI (n + 1))])), (ak, .inl (cL, 1001, .inr (.inl f)))] s.heap := hP
  have hl := lv_entry ([.ref aF]) (n := 3) (Nat.le_of_ble_eq_true rfl)
  rw [lg_entry_eq]
  generalize (lg_sl ([.ref aF]) ++ List.replicate (3 - (lg_sl ([.ref aF])).length) Slot.unset).toArray = ls at hl ⊢
  have hl : lv_has ls 3 [(0, .ref aF)] := hl
  refine lv_aload_n hx hb d_F_takeLeast_0 rfl (lv_at hl 0 rfl) ?_
  refine va_get (D := (dC, dI)) (ci := 1) (v := .int (nI (n + 1))) (C := "RoomEchoes$Frontier") (T := FT_F) (N := 2) hx hb hts (hi_ in_F) hown hK hP 0 rfl rfl 1 (by decide) (ht_ hts mw53) (fun _ h9 => h9) rfl d_F_takeLeast_1 ?_
  refine lv_iconst (v := 1) hx hb d_F_takeLeast_4 (by decide) ?_
  refine lv_icmp_ge (tgt := 10) hx hb d_F_takeLeast_5 (by decide) (fun c_5 => ?_) (fun c_5 => ?_)
  · skip
    refine lv_aload_n hx hb d_F_takeLeast_10 rfl (lv_at hl 0 rfl) ?_
    refine va_get (D := (dC, dI)) (ci := 1) (v := .ref ak) (C := "RoomEchoes$Frontier") (T := FT_F) (N := 2) hx hb hts (hi_ in_F) hown hK hP 0 rfl rfl 0 (by decide) (ht_ hts mw52) (fun _ h9 => h9) rfl d_F_takeLeast_11 ?_
    refine lv_iconst (v := 0) hx hb d_F_takeLeast_14 (by decide) ?_
    refine va_lald hx hb hK hP 1 1 rfl rfl (by unfold vp_in; decide) d_F_takeLeast_15 ?_
    refine tp_l (f 0) rfl ?_
    refine lv_lstore_n (lv' := [(1, .long (f 0)), (0, .ref aF)]) hx hb d_F_takeLeast_16 rfl hl (by decide) rfl (fun ls hl => ?_)
    refine lv_aload_n hx hb d_F_takeLeast_17 rfl (lv_at hl 1 rfl) ?_
    refine lv_dup hx hb d_F_takeLeast_18 rfl ?_
    refine va_get (D := (dC, dI)) (ci := 1) (v := .int (nI (n + 1))) (C := "RoomEchoes$Frontier") (T := FT_F) (N := 2) hx hb hts (hi_ in_F) hown hK hP 0 rfl rfl 1 (by decide) (ht_ hts mw53) (fun _ h9 => h9) rfl d_F_takeLeast_19 ?_
    refine lv_iconst (v := 1) hx hb d_F_takeLeast_22 (by decide) ?_
    refine lv_isub hx hb d_F_takeLeast_23 ?_
    refine tp_i (nI n) (nI_pred n) ?_
    refine va_put (D := (dC, dI)) (ci := 1) (v := .int (nI n)) (ty := .int) (C := "RoomEchoes$Frontier") (T := FT_F) (N := 2) hx hb hts (hi_ in_F) ty_F tyo_F nm_F hown hK hP hD hS 0 rfl rfl 1 (by decide) (ht_ hts mw53) (fun _ h9 => h9) rfl (by decide +kernel) rfl rfl (Nat.le_of_ble_eq_true rfl) d_F_takeLeast_24 (fun H locs hP hD hS => ?_)
    have hP : va_P (dC, dI) vwCl [(aF, .inr (1, [.ref ak, .int (nI n)])), (ak, .inl (cL, 1001, .inr (.inl f)))] H := hP
    have hD : va_D A [(aF, .inr (1, [.ref ak, .int (nI n)])), (ak, .inl (cL, 1001, .inr (.inl f)))] := hD
    refine lv_aload_n hx hb d_F_takeLeast_27 rfl (lv_at hl 1 rfl) ?_
    refine lv_aload_n hx hb d_F_takeLeast_28 rfl (lv_at hl 1 rfl) ?_
    refine va_get (D := (dC, dI)) (ci := 1) (v := .ref ak) (C := "RoomEchoes$Frontier") (T := FT_F) (N := 2) hx hb hts (hi_ in_F) hown hK hP 0 rfl rfl 0 (by decide) (ht_ hts mw52) (fun _ h9 => h9) rfl d_F_takeLeast_29 ?_
    refine lv_aload_n hx hb d_F_takeLeast_32 rfl (lv_at hl 1 rfl) ?_
    refine va_get (D := (dC, dI)) (ci := 1) (v := .int (nI n)) (C := "RoomEchoes$Frontier") (T := FT_F) (N := 2) hx hb hts (hi_ in_F) hown hK hP 0 rfl rfl 1 (by decide) (ht_ hts mw53) (fun _ h9 => h9) rfl d_F_takeLeast_33 ?_
    refine va_lald hx hb hK hP 1 1 rfl rfl (vp_in_nI (by omega) (by omega)) d_F_takeLeast_36 ?_
    refine tp_l (f n) (by rw [nI_clamp (by omega)]) ?_
    have hPc := hP.sub (ws' := [(aF, .inr (1, [.ref ak, .int (nI n)])), (ak, .inl (cL, 1001, .inr (.inl f)))]) [0, 1] rfl
    have hDc := hD.sub (ws' := [(aF, .inr (1, [.ref ak, .int (nI n)])), (ak, .inl (cL, 1001, .inr (.inl f)))]) [0, 1] (by decide) rfl
    refine wr_cv (wr := []) (w1 := [(aF, .inr (1, [.ref ak, .int (nI n)])), (ak, .inl (cL, 1001, .inr (.inl (pu_dn (f n) n (n + 1) 0 f))))]) hP hD hS hA [0, 1] [] rfl rfl (by decide) (by decide) (va_runV (As := [.long (f n)]) (rest := []) ⟨hx, hb, hml, hown, hts⟩ (c_F_sink l dC dI cI cL aF ak n f (f n) _ (by omega)) (cwV 1 hts (gi_V mw333 mw330 mw332 mw9 mw30) rfl rfl rfl (by decide +kernel) ⟨Nat.le_of_ble_eq_true rfl, Nat.le_of_ble_eq_true rfl⟩) (wr_V hM hPc hDc rfl rfl rfl) rfl rfl hl.1 rfl (lv_room (Nat.le_of_ble_eq_true rfl)) d_F_takeLeast_37 ⟨Nat.le_of_ble_eq_true rfl, Nat.le_of_ble_eq_true rfl⟩) (fun H locs hP hD hS => ?_)
    have hP := hP.sub (ws' := [(aF, .inr (1, [.ref ak, .int (nI n)])), (ak, .inl (cL, 1001, .inr (.inl (pu_dn (f n) n (n + 1) 0 f))))]) [0, 1] rfl
    have hD := hD.sub (ws' := [(aF, .inr (1, [.ref ak, .int (nI n)])), (ak, .inl (cL, 1001, .inr (.inl (pu_dn (f n) n (n + 1) 0 f))))]) [0, 1] (by decide) rfl
    refine lv_lload_n hx hb d_F_takeLeast_40 rfl (lv_at hl 0 rfl) ?_
    have hP9 : va_P (dC, dI) vwCl [(aF, .inr (1, [.ref ak, .int (nI n)])), (ak, .inl (cL, 1001, .inr (.inl (pu_dn (f n) n (n + 1) 0 f))))] H := hP
    have hD9 : va_D A [(aF, .inr (1, [.ref ak, .int (nI n)])), (ak, .inl (cL, 1001, .inr (.inl (pu_dn (f n) n (n + 1) 0 f))))] := hD
    exact W.lret (v := f 0) hx hb hr (fun t ht hW => ⟨⟨_, (), rfl, rfl, by rw [ht]; exact hP9, hD9⟩, hS.F ht⟩) hS.2.2 d_F_takeLeast_41
  · skip
    exact absurd (show nI 1 ≤ nI (n + 1) from nI_le (by omega) (by omega)) c_5

set_option maxHeartbeats 4000000 in
set_option maxRecDepth 100000 in
theorem c_F_clear (l : Launch) (dC : Nat → ClassId) (dI : Nat → Nat → Nat) (cI cL : ClassId) (aF : Nat) (ak : Nat) (n : Nat) (sz : Nat) : Met l y_F_clear w_F_clear ({ frames := 0, cells := 0, slots := 0, locals := 0 }) (wr_P (dC, dI) cI cL [(aF, .inr (1, [.ref ak, .int (nI n)]))] sz [.ref aF]) (wr_v (dC, dI) (va_A [(aF, .inr (1, [.ref ak, .int (nI n)]))] sz) [(aF, .inr (1, [.ref ak, .int (nI 0)]))]) 0 0 (va_A [(aF, .inr (1, [.ref ak, .int (nI n)]))] sz) := by
  refine Met.ofW (cc := b_F_clear) (maxL := 1) (ret := none) (by decide) rfl ?_
  intro p e s m args below meth c s₁ B hml hv
  obtain ⟨rfl, hsz, hP, hM, hD0⟩ := hv
  have hx := B.exec
  have hb := B.bytes
  have hr := B.returns
  have hts := atoms_spec (ws := w_F_clear) B.pre
  have hown : s.vm.findClass "RoomEchoes$Frontier" = some m.cls := findClass_of_methodNamed B.named
  have hlocks := B.notSynchronized
  have hK := hM.1
  subst hsz
  have hD := hD0.self (sz := s.heap.size)
  generalize hAe : va_A [(aF, .inr (1, [.ref ak, .int (nI n)]))] s.heap.size = A at hD ⊢
  have hA : ∀ q : Nat, s.heap.size ≤ q → A q := fun q h => by rw [← hAe]; exact Or.inr h
  have hS : va_S A s.heap s.heap [] := va_S.rf
  have hP : va_P (dC, dI) vwCl [(aF, .inr (1, [.ref ak, .int (nI n)]))] s.heap := hP
  have hl := lv_entry ([.ref aF]) (n := 1) (Nat.le_of_ble_eq_true rfl)
  rw [lg_entry_eq]
  generalize (lg_sl ([.ref aF]) ++ List.replicate (1 - (lg_sl ([.ref aF])).length) Slot.unset).toArray = ls at hl ⊢
  have hl : lv_has ls 1 [(0, .ref aF)] := hl
  refine lv_aload_n hx hb d_F_clear_0 rfl (lv_at hl 0 rfl) ?_
  refine lv_iconst (v := 0) hx hb d_F_clear_1 (by decide) ?_
  refine va_put (D := (dC, dI)) (ci := 1) (v := .int 0) (ty := .int) (C := "RoomEchoes$Frontier") (T := FT_F) (N := 2) hx hb hts (hi_ in_F) ty_F tyo_F nm_F hown hK hP hD hS 0 rfl rfl 1 (by decide) (ht_ hts mw53) (fun _ h9 => h9) rfl (by decide +kernel) rfl rfl (Nat.le_of_ble_eq_true rfl) d_F_clear_2 (fun H locs hP hD hS => ?_)
  have hP : va_P (dC, dI) vwCl [(aF, .inr (1, [.ref ak, .int 0]))] H := hP
  have hD : va_D A [(aF, .inr (1, [.ref ak, .int 0]))] := hD
  have hP9 : va_P (dC, dI) vwCl [(aF, .inr (1, [.ref ak, .int (nI 0)]))] H := hP
  have hD9 : va_D A [(aF, .inr (1, [.ref ak, .int (nI 0)]))] := hD
  exact W.vret hx hb hr (fun t ht hW => ⟨⟨(), rfl, trivial, by rw [ht]; exact hP9, hD9⟩, hS.F ht⟩) hS.2.2 d_F_clear_5

set_option maxHeartbeats 4000000 in
set_option maxRecDepth 100000 in
theorem c_R_forget (l : Launch) (dC : Nat → ClassId) (dI : Nat → Nat → Nat) (cI cL : ClassId) (aR : Nat) (aX : Nat) (aY : Nat) (aZ : Nat) (aK : Nat) (aF : Nat) (aE : Nat) (aL : Nat) (od : Int32) (wd : Int32) (sz : Nat) : Met l y_R_forgetOrder w_R_forgetOrder ({ frames := 0, cells := 0, slots := 0, locals := 0 }) (wr_P (dC, dI) cI cL [(aR, .inr (2, [.ref aX, .ref aY, .ref aZ, .ref aK, .ref aF, .ref aE, .ref aL, .int od, .int wd]))] sz [.ref aR]) (wr_v (dC, dI) (va_A [(aR, .inr (2, [.ref aX, .ref aY, .ref aZ, .ref aK, .ref aF, .ref aE, .ref aL, .int od, .int wd]))] sz) [(aR, .inr (2, [.ref aX, .ref aY, .ref aZ, .ref aK, .ref aF, .ref aE, .ref aL, .int 0, .int 0]))]) 0 0 (va_A [(aR, .inr (2, [.ref aX, .ref aY, .ref aZ, .ref aK, .ref aF, .ref aE, .ref aL, .int od, .int wd]))] sz) := by
  refine Met.ofW (cc := b_R_forgetOrder) (maxL := 1) (ret := none) (by decide) rfl ?_
  intro p e s m args below meth c s₁ B hml hv
  obtain ⟨rfl, hsz, hP, hM, hD0⟩ := hv
  have hx := B.exec
  have hb := B.bytes
  have hr := B.returns
  have hts := atoms_spec (ws := w_R_forgetOrder) B.pre
  have hown : s.vm.findClass "RoomEchoes" = some m.cls := findClass_of_methodNamed B.named
  have hlocks := B.notSynchronized
  have hK := hM.1
  subst hsz
  have hD := hD0.self (sz := s.heap.size)
  generalize hAe : va_A [(aR, .inr (2, [.ref aX, .ref aY, .ref aZ, .ref aK, .ref aF, .ref aE, .ref aL, .int od, .int wd]))] s.heap.size = A at hD ⊢
  have hA : ∀ q : Nat, s.heap.size ≤ q → A q := fun q h => by rw [← hAe]; exact Or.inr h
  have hS : va_S A s.heap s.heap [] := va_S.rf
  have hP : va_P (dC, dI) vwCl [(aR, .inr (2, [.ref aX, .ref aY, .ref aZ, .ref aK, .ref aF, .ref aE, .ref aL, .int od, .int wd]))] s.heap := hP
  have hl := lv_entry ([.ref aR]) (n := 1) (Nat.le_of_ble_eq_true rfl)
  rw [lg_entry_eq]
  generalize (lg_sl ([.ref aR]) ++ List.replicate (1 - (lg_sl ([.ref aR])).length) Slot.unset).toArray = ls at hl ⊢
  have hl : lv_has ls 1 [(0, .ref aR)] := hl
  refine lv_aload_n hx hb d_R_forgetOrder_0 rfl (lv_at hl 0 rfl) ?_
  refine lv_iconst (v := 0) hx hb d_R_forgetOrder_1 (by decide) ?_
  refine va_put (D := (dC, dI)) (ci := 2) (v := .int 0) (ty := .boolean) (C := "RoomEchoes") (T := FT_R) (N := 9) hx hb hts (hi_ in_R) ty_R tyo_R nm_R hown hK hP hD hS 0 rfl rfl 7 (by decide) (ht_ hts mw102) (fun _ h9 => h9) rfl (by decide +kernel) rfl rfl (Nat.le_of_ble_eq_true rfl) d_R_forgetOrder_2 (fun H locs hP hD hS => ?_)
  have hP : va_P (dC, dI) vwCl [(aR, .inr (2, [.ref aX, .ref aY, .ref aZ, .ref aK, .ref aF, .ref aE, .ref aL, .int 0, .int wd]))] H := hP
  have hD : va_D A [(aR, .inr (2, [.ref aX, .ref aY, .ref aZ, .ref aK, .ref aF, .ref aE, .ref aL, .int 0, .int wd]))] := hD
  refine lv_aload_n hx hb d_R_forgetOrder_5 rfl (lv_at hl 0 rfl) ?_
  refine lv_iconst (v := 0) hx hb d_R_forgetOrder_6 (by decide) ?_
  refine va_put (D := (dC, dI)) (ci := 2) (v := .int 0) (ty := .boolean) (C := "RoomEchoes") (T := FT_R) (N := 9) hx hb hts (hi_ in_R) ty_R tyo_R nm_R hown hK hP hD hS 0 rfl rfl 8 (by decide) (ht_ hts mw103) (fun _ h9 => h9) rfl (by decide +kernel) rfl rfl (Nat.le_of_ble_eq_true rfl) d_R_forgetOrder_7 (fun H locs hP hD hS => ?_)
  have hP : va_P (dC, dI) vwCl [(aR, .inr (2, [.ref aX, .ref aY, .ref aZ, .ref aK, .ref aF, .ref aE, .ref aL, .int 0, .int 0]))] H := hP
  have hD : va_D A [(aR, .inr (2, [.ref aX, .ref aY, .ref aZ, .ref aK, .ref aF, .ref aE, .ref aL, .int 0, .int 0]))] := hD
  have hP9 : va_P (dC, dI) vwCl [(aR, .inr (2, [.ref aX, .ref aY, .ref aZ, .ref aK, .ref aF, .ref aE, .ref aL, .int 0, .int 0]))] H := hP
  have hD9 : va_D A [(aR, .inr (2, [.ref aX, .ref aY, .ref aZ, .ref aK, .ref aF, .ref aE, .ref aL, .int 0, .int 0]))] := hD
  exact W.vret hx hb hr (fun t ht hW => ⟨⟨(), rfl, trivial, by rw [ht]; exact hP9, hD9⟩, hS.F ht⟩) hS.2.2 d_R_forgetOrder_10
