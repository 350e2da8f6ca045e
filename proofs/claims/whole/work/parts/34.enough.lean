theorem lf_iff {M a b c : Nat} (hM : M ≤ 8000000000) (ha : a < 2147483648) (hb : b < 2147483648) (hc : c < 2147483648) : lN M - lN a - lN b < lN c ↔ M < a + b + c := by
  have e1 := ln_int (x := M) (by omega)
  have e2 := ln_int (x := a) (by omega)
  have e3 := ln_int (x := b) (by omega)
  have e4 := ln_int (x := c) (by omega)
  have e5 : (lN M - lN a).toInt = (M : Int) - a := by rw [l_sub (by omega) (by omega), e1, e2]
  have e6 : (lN M - lN a - lN b).toInt = (M : Int) - a - b := by rw [l_sub (by omega) (by omega), e5, e3]
  rw [pu_lt, e6, e4]
  omega
def e3 (s0 s1 s2 : Nat → Nat) (M i j : Nat) : Nat := sm (fun k => if s0 i + s1 j + s2 k ≤ M then 1 else 0) 81
def e2 (s0 s1 s2 : Nat → Nat) (M i : Nat) : Nat := sm (e3 s0 s1 s2 M i) 81
theorem c3_e (s0 s1 s2 : Nat → Nat) (M : Nat) : c3 s0 s1 s2 M = sm (e2 s0 s1 s2 M) 81 := rfl
theorem mn_all {A n b : Nat} {g : Nat → Nat} (h : n = min 500 (A + sm g b)) (hb : b ≤ 81) (h2 : b = 81 ∨ 500 ≤ n) : n = min 500 (A + sm g 81) := by
  have m := sm_mono g hb
  rcases h2 with q | q
  · rw [← q]; exact h
  · omega
/-- the innermost loop's end -/
theorem mn_in {s0 s1 s2 : Nat → Nat} {M i j n k : Nat} (hs : ∀ a b, a < b → b < 81 → s2 a ≤ s2 b) (hn : n + k ≤ 500) (hk : k ≤ 81) (hp : ∀ a, a < k → s0 i + s1 j + s2 a ≤ M) (h : k = 81 ∨ 500 ≤ n + k ∨ (k < 81 ∧ M < s0 i + s1 j + s2 k)) : n + k = min 500 (n + e3 s0 s1 s2 M i j) := by
  have l1 := cp_le (P := fun a => s0 i + s1 j + s2 a ≤ M) hp hk
  have l2 : sm (fun a => if s0 i + s1 j + s2 a ≤ M then 1 else 0) 81 = e3 s0 s1 s2 M i j := rfl
  rcases h with h | h | ⟨h1, h2⟩
  · have e := cp_eq (P := fun a => s0 i + s1 j + s2 a ≤ M) hp hk (fun a q1 q2 => by omega)
    rw [l2] at e
    omega
  · rw [l2] at l1
    omega
  · have e := cp_eq (P := fun a => s0 i + s1 j + s2 a ≤ M) hp hk (fun a q1 q2 z => by
      by_cases y : a = k
      · subst y; omega
      · have := hs k a (by omega) q2; omega)
    rw [l2] at e
    omega
theorem mn_add {A B n m k : Nat} (h : n = min 500 (A + B)) (h2 : m = min 500 (n + k)) : m = min 500 (A + (B + k)) := by omega

theorem lf_step {s0 s1 s2 : Nat → Nat} {M i j k : Nat} (hp : ∀ a, a < k → s0 i + s1 j + s2 a ≤ M) (h : ¬ M < s0 i + s1 j + s2 k) : ∀ a, a < k + 1 → s0 i + s1 j + s2 a ≤ M := by
  intro a ha
  by_cases y : a = k
  · subst y; omega
  · exact hp a (by omega)

set_option maxHeartbeats 4000000 in
set_option maxRecDepth 100000 in
theorem c_M_isEnough (l : Launch) (dC : Nat → ClassId) (dI : Nat → Nat → Nat) (cI cL : ClassId) (aM : Nat) (th0 : Int32) (kn : Int32) (mS : Nat) (mC : Nat) (mL : Nat) (mK : Nat) (mQ : Nat) (mT : Nat) (mD : Nat) (mA : Nat) (mB : Nat) (mG : Nat) (so : Nat → Int64) (s0 : Nat → Nat) (s1 : Nat → Nat) (s2 : Nat → Nat) (M : Nat) (mo : Int64) (h0 : ∀ a, a < 81 → so a = lN (s0 a)) (h1 : ∀ a, a < 81 → so (81 + a) = lN (s1 a)) (h2 : ∀ a, a < 81 → so (162 + a) = lN (s2 a)) (hq : qb s0 s1 s2) (hs : ∀ a b, a < b → b < 81 → s2 a ≤ s2 b) (hmo : mo = lN M) (hM8 : M ≤ 8000000000) : Met l y_M_isEnough w_M_isEnough ({ frames := 0, cells := 0, slots := 0, locals := 0 }) (rd_P (dC, dI) cI cL [(aM, .inr (3, [.int th0, .ref mS, .ref mC, .ref mL, .ref mK, .int kn, .ref mQ, .ref mT, .ref mD, .ref mA, .ref mB, .ref mG])), (mT, .inl (cL, 243, .inr (.inl so)))] [.ref aM, .long mo]) (k2_QcV (.int (if 500 ≤ c3 s0 s1 s2 M then 1 else 0))) 0 0 (fun _ => False) := by
  refine Met.ofW (cc := b_M_isEnough) (maxL := 9) (ret := (some .boolean)) (by decide) rfl ?_
  intro p e s m args below meth c s₁ B hml hv
  obtain ⟨rfl, hP, hM⟩ := hv
  have hx := B.exec
  have hb := B.bytes
  have hr := B.returns
  have hts := atoms_spec (ws := w_M_isEnough) B.pre
  have hown : s.vm.findClass "RoomEchoesModel" = some m.cls := findClass_of_methodNamed B.named
  have hlocks := B.notSynchronized
  have hK := hM.1
  have hl := lv_entry ([.ref aM, .long mo]) (n := 9) (Nat.le_of_ble_eq_true rfl)
  rw [lg_entry_eq]
  generalize (lg_sl ([.ref aM, .long mo]) ++ List.replicate (9 - (lg_sl ([.ref aM, .long mo])).length) Slot.unset).toArray = ls at hl ⊢
  have hl : lv_has ls 9 [(0, .ref aM), (1, .long mo)] := hl
  refine lv_iconst (v := 0) hx hb d_M_isEnough_0 (by decide) ?_
  refine lv_istore_n (lv' := [(3, .int 0), (0, .ref aM), (1, .long mo)]) hx hb d_M_isEnough_1 rfl hl (by decide) rfl (fun ls hl => ?_)
  refine lv_iconst (v := 0) hx hb d_M_isEnough_2 (by decide) ?_
  refine lv_istore (lv' := [(4, .int 0), (3, .int 0), (0, .ref aM), (1, .long mo)]) hx hb d_M_isEnough_3 hl (by decide) rfl (fun ls hl => ?_)
  have lpa : ∀ (fa : Nat) (ia : Nat) (n1 : Nat), 81 < ia + fa → ia ≤ 81 → n1 ≤ 500 → n1 = min 500 (sm (e2 s0 s1 s2 M) ia) → ∀ (ls : Array Slot), lv_has ls 9 [(4, .int (nI ia)), (3, .int (nI n1)), (0, .ref aM), (1, .long mo)] → W p l e (headSpec w_M_isEnough ({ frames := 0, cells := 0, slots := 0, locals := 0 })).room s m ([.ref aM, .long mo] : List Value).toArray below meth c s.heap [] 0 0 (MQ below (k2_QcV (.int (if 500 ≤ c3 s0 s1 s2 M then 1 else 0))) ([.ref aM, .long mo] : List Value).toArray s 0 0 (fun _ => False)) (F0 m 5 ls []) := by
    intro fa
    induction fa with
    | zero => intro ia n1 hfa hia h15 hn1 ls hl; omega
    | succ fa iha =>
      intro ia n1 hfa hia h15 hn1 ls hl
      refine lv_iload hx hb d_M_isEnough_5 (lv_at hl 0 rfl) ?_
      refine lv_bipush (v := 81) hx hb d_M_isEnough_7 (by decide) ?_
      refine lv_icmp_ge (tgt := 113) hx hb d_M_isEnough_9 (by decide) (fun c_9 => ?_) (fun c_9 => ?_)
      · skip
        refine lv_iload_n hx hb d_M_isEnough_113 rfl (lv_at hl 1 rfl) ?_
        refine lv_sipush (v := 500) hx hb d_M_isEnough_114 (by decide) ?_
        refine lv_icmp_ne (tgt := 124) hx hb d_M_isEnough_117 (by decide) (fun c_117 => ?_) (fun c_117 => ?_)
        · skip
          refine lv_iconst (v := 0) hx hb d_M_isEnough_124 (by decide) ?_
          have e9 : n1 = min 500 (0 + c3 s0 s1 s2 M) := mn_all (A := 0) (g := e2 s0 s1 s2 M) (by rw [Nat.zero_add]; exact hn1) hia (Or.inl (by have : 81 ≤ ia := nu_end (x := 81) (by omega) c_9; omega))
          exact W.zret (v := 0) hx hb hr (by decide) (fun t ht hW => ⟨congrArg (fun z => Outcome.returned (some (Value.int z))) (if_neg (fun y => c_117 (show nI n1 = nI 500 by rw [show n1 = 500 by omega]))).symm, ht⟩) (fun q h => by cases h) d_M_isEnough_125
        · skip
          refine lv_iconst (v := 1) hx hb d_M_isEnough_120 (by decide) ?_
          refine lv_goto (tgt := 125) hx hb d_M_isEnough_121 (by decide) ?_
          have e9 : n1 = min 500 (0 + c3 s0 s1 s2 M) := mn_all (A := 0) (g := e2 s0 s1 s2 M) (by rw [Nat.zero_add]; exact hn1) hia (Or.inl (by have : 81 ≤ ia := nu_end (x := 81) (by omega) c_9; omega))
          exact W.zret (v := 1) hx hb hr (by decide) (fun t ht hW => ⟨congrArg (fun z => Outcome.returned (some (Value.int z))) (if_pos (by have z : n1 = 500 := (nI_eq (by omega) (by decide)).mp c_117; omega)).symm, ht⟩) (fun q h => by cases h) d_M_isEnough_125
      · skip
        refine lv_iload_n hx hb d_M_isEnough_12 rfl (lv_at hl 1 rfl) ?_
        refine lv_sipush (v := 500) hx hb d_M_isEnough_13 (by decide) ?_
        refine lv_icmp_ge (tgt := 113) hx hb d_M_isEnough_16 (by decide) (fun c_16 => ?_) (fun c_16 => ?_)
        · skip
          refine lv_iload_n hx hb d_M_isEnough_113 rfl (lv_at hl 1 rfl) ?_
          refine lv_sipush (v := 500) hx hb d_M_isEnough_114 (by decide) ?_
          refine lv_icmp_ne (tgt := 124) hx hb d_M_isEnough_117 (by decide) (fun c_117 => ?_) (fun c_117 => ?_)
          · skip
            refine lv_iconst (v := 0) hx hb d_M_isEnough_124 (by decide) ?_
            have e9 : n1 = min 500 (0 + c3 s0 s1 s2 M) := mn_all (A := 0) (g := e2 s0 s1 s2 M) (by rw [Nat.zero_add]; exact hn1) hia (Or.inr (nu_end (x := 500) (by omega) c_16))
            exact W.zret (v := 0) hx hb hr (by decide) (fun t ht hW => ⟨congrArg (fun z => Outcome.returned (some (Value.int z))) (if_neg (fun y => c_117 (show nI n1 = nI 500 by rw [show n1 = 500 by omega]))).symm, ht⟩) (fun q h => by cases h) d_M_isEnough_125
          · skip
            refine lv_iconst (v := 1) hx hb d_M_isEnough_120 (by decide) ?_
            refine lv_goto (tgt := 125) hx hb d_M_isEnough_121 (by decide) ?_
            have e9 : n1 = min 500 (0 + c3 s0 s1 s2 M) := mn_all (A := 0) (g := e2 s0 s1 s2 M) (by rw [Nat.zero_add]; exact hn1) hia (Or.inr (nu_end (x := 500) (by omega) c_16))
            exact W.zret (v := 1) hx hb hr (by decide) (fun t ht hW => ⟨congrArg (fun z => Outcome.returned (some (Value.int z))) (if_pos (by have z : n1 = 500 := (nI_eq (by omega) (by decide)).mp c_117; omega)).symm, ht⟩) (fun q h => by cases h) d_M_isEnough_125
        · skip
          refine lv_iconst (v := 0) hx hb d_M_isEnough_19 (by decide) ?_
          refine lv_istore (lv' := [(5, .int 0), (4, .int (nI ia)), (3, .int (nI n1)), (0, .ref aM), (1, .long mo)]) hx hb d_M_isEnough_20 hl (by decide) rfl (fun ls hl => ?_)
          have a5 : ia < 81 := nu_on (x := 81) (by omega) c_9
          have lpb : ∀ (fb : Nat) (ib : Nat) (n2 : Nat), 81 < ib + fb → ib ≤ 81 → n2 ≤ 500 → n2 = min 500 (sm (e2 s0 s1 s2 M) ia + sm (e3 s0 s1 s2 M ia) ib) → ∀ (ls : Array Slot), lv_has ls 9 [(5, .int (nI ib)), (4, .int (nI ia)), (3, .int (nI n2)), (0, .ref aM), (1, .long mo)] → W p l e (headSpec w_M_isEnough ({ frames := 0, cells := 0, slots := 0, locals := 0 })).room s m ([.ref aM, .long mo] : List Value).toArray below meth c s.heap [] 0 0 (MQ below (k2_QcV (.int (if 500 ≤ c3 s0 s1 s2 M then 1 else 0))) ([.ref aM, .long mo] : List Value).toArray s 0 0 (fun _ => False)) (F0 m 22 ls []) := by
            intro fb
            induction fb with
            | zero => intro ib n2 hfb hib h25 hn2 ls hl; omega
            | succ fb ihb =>
              intro ib n2 hfb hib h25 hn2 ls hl
              refine lv_iload hx hb d_M_isEnough_22 (lv_at hl 0 rfl) ?_
              refine lv_bipush (v := 81) hx hb d_M_isEnough_24 (by decide) ?_
              refine lv_icmp_ge (tgt := 107) hx hb d_M_isEnough_26 (by decide) (fun c_26 => ?_) (fun c_26 => ?_)
              · skip
                refine lv_iinc (v := nI (ia + 1)) (lv' := [(4, .int (nI (ia + 1))), (5, .int (nI ib)), (3, .int (nI n2)), (0, .ref aM), (1, .long mo)]) hx hb d_M_isEnough_107 hl (k := 1) rfl (nI_succ _).symm (by decide) rfl (fun ls hl => ?_)
                refine lv_goto (tgt := 5) hx hb d_M_isEnough_110 (by decide) ?_
                exact iha (ia + 1) _ (by omega) (by omega) (by omega) (mn_all hn2 hib (Or.inl (by have : 81 ≤ ib := nu_end (x := 81) (by omega) c_26; omega))) ls (lv_sub hl [0, 2, 3, 4] rfl)
              · skip
                refine lv_iload_n hx hb d_M_isEnough_29 rfl (lv_at hl 2 rfl) ?_
                refine lv_sipush (v := 500) hx hb d_M_isEnough_30 (by decide) ?_
                refine lv_icmp_ge (tgt := 107) hx hb d_M_isEnough_33 (by decide) (fun c_33 => ?_) (fun c_33 => ?_)
                · skip
                  refine lv_iinc (v := nI (ia + 1)) (lv' := [(4, .int (nI (ia + 1))), (5, .int (nI ib)), (3, .int (nI n2)), (0, .ref aM), (1, .long mo)]) hx hb d_M_isEnough_107 hl (k := 1) rfl (nI_succ _).symm (by decide) rfl (fun ls hl => ?_)
                  refine lv_goto (tgt := 5) hx hb d_M_isEnough_110 (by decide) ?_
                  exact iha (ia + 1) _ (by omega) (by omega) (by omega) (mn_all hn2 hib (Or.inr (nu_end (x := 500) (by omega) c_33))) ls (lv_sub hl [0, 2, 3, 4] rfl)
                · skip
                  have b5 : ib < 81 := nu_on (x := 81) (by omega) c_26
                  have n25 : n2 < 500 := nu_on (x := 500) (by omega) c_33
                  refine lv_lload_n hx hb d_M_isEnough_36 rfl (lv_at hl 4 rfl) ?_
                  refine lv_aload_n hx hb d_M_isEnough_37 rfl (lv_at hl 3 rfl) ?_
                  refine va_get (D := (dC, dI)) (ci := 3) (v := .ref mT) (C := "RoomEchoesModel") (T := FT_M) (N := 12) hx hb hts (hi_ in_M) hown hK hP 0 rfl rfl 7 (by decide) (ht_ hts mw431) (fun _ h9 => h9) rfl d_M_isEnough_38 ?_
                  refine lv_iload hx hb d_M_isEnough_41 (lv_at hl 1 rfl) ?_
                  refine va_lald hx hb hK hP 1 1 rfl rfl (vp_in_nI (by omega) (by omega)) d_M_isEnough_43 ?_
                  refine tp_l (so ia) (by rw [nI_clamp (by omega)]) ?_
                  refine tp_l (lN (s0 ia)) (h0 ia a5) ?_
                  refine lv_lsub hx hb d_M_isEnough_44 ?_
                  refine lv_aload_n hx hb d_M_isEnough_45 rfl (lv_at hl 3 rfl) ?_
                  refine va_get (D := (dC, dI)) (ci := 3) (v := .ref mT) (C := "RoomEchoesModel") (T := FT_M) (N := 12) hx hb hts (hi_ in_M) hown hK hP 0 rfl rfl 7 (by decide) (ht_ hts mw431) (fun _ h9 => h9) rfl d_M_isEnough_46 ?_
                  refine lv_bipush (v := 81) hx hb d_M_isEnough_49 (by decide) ?_
                  refine lv_iload hx hb d_M_isEnough_51 (lv_at hl 0 rfl) ?_
                  refine lv_iadd hx hb d_M_isEnough_53 ?_
                  refine tp_i (nI (81 + ib)) (nI_add 81 ib) ?_
                  refine va_lald hx hb hK hP 1 1 rfl rfl (vp_in_nI (by omega) (by omega)) d_M_isEnough_54 ?_
                  refine tp_l (so (81 + ib)) (by rw [nI_clamp (by omega)]) ?_
                  refine tp_l (lN (s1 ib)) (h1 ib b5) ?_
                  refine lv_lsub hx hb d_M_isEnough_55 ?_
                  refine tp_l (lN M - lN (s0 ia) - lN (s1 ib)) (by rw [hmo]) ?_
                  refine lv_lstore (lv' := [(6, .long (lN M - lN (s0 ia) - lN (s1 ib))), (5, .int (nI ib)), (4, .int (nI ia)), (3, .int (nI n2)), (0, .ref aM), (1, .long mo)]) hx hb d_M_isEnough_56 hl (by decide) rfl (fun ls hl => ?_)
                  refine lv_iconst (v := 0) hx hb d_M_isEnough_58 (by decide) ?_
                  refine lv_istore (lv' := [(8, .int 0), (6, .long (lN M - lN (s0 ia) - lN (s1 ib))), (5, .int (nI ib)), (4, .int (nI ia)), (3, .int (nI n2)), (0, .ref aM), (1, .long mo)]) hx hb d_M_isEnough_59 hl (by decide) rfl (fun ls hl => ?_)
                  have lpc : ∀ (fc : Nat) (ic : Nat), 81 < ic + fc → ic ≤ 81 → n2 + ic ≤ 500 → (∀ a, a < ic → s0 ia + s1 ib + s2 a ≤ M) → ∀ (ls : Array Slot), lv_has ls 9 [(8, .int (nI ic)), (6, .long (lN M - lN (s0 ia) - lN (s1 ib))), (5, .int (nI ib)), (4, .int (nI ia)), (3, .int (nI (n2 + ic))), (0, .ref aM), (1, .long mo)] → W p l e (headSpec w_M_isEnough ({ frames := 0, cells := 0, slots := 0, locals := 0 })).room s m ([.ref aM, .long mo] : List Value).toArray below meth c s.heap [] 0 0 (MQ below (k2_QcV (.int (if 500 ≤ c3 s0 s1 s2 M then 1 else 0))) ([.ref aM, .long mo] : List Value).toArray s 0 0 (fun _ => False)) (F0 m 61 ls []) := by
                    intro fc
                    induction fc with
                    | zero => intro ic hfc hic hn3 hp ls hl; omega
                    | succ fc ihc =>
                      intro ic hfc hic hn3 hp ls hl
                      refine lv_iload hx hb d_M_isEnough_61 (lv_at hl 0 rfl) ?_
                      refine lv_bipush (v := 81) hx hb d_M_isEnough_63 (by decide) ?_
                      refine lv_icmp_ge (tgt := 101) hx hb d_M_isEnough_65 (by decide) (fun c_65 => ?_) (fun c_65 => ?_)
                      · skip
                        refine lv_iinc (v := nI (ib + 1)) (lv' := [(5, .int (nI (ib + 1))), (8, .int (nI ic)), (6, .long (lN M - lN (s0 ia) - lN (s1 ib))), (4, .int (nI ia)), (3, .int (nI (n2 + ic))), (0, .ref aM), (1, .long mo)]) hx hb d_M_isEnough_101 hl (k := 2) rfl (nI_succ _).symm (by decide) rfl (fun ls hl => ?_)
                        refine lv_goto (tgt := 22) hx hb d_M_isEnough_104 (by decide) ?_
                        exact ihb (ib + 1) _ (by omega) (by omega) (by omega) (mn_add hn2 (mn_in hs hn3 hic hp (Or.inl (by have : 81 ≤ ic := nu_end (x := 81) (by omega) c_65; omega)))) ls (lv_sub hl [0, 3, 4, 5, 6] rfl)
                      · skip
                        refine lv_iload_n hx hb d_M_isEnough_68 rfl (lv_at hl 4 rfl) ?_
                        refine lv_sipush (v := 500) hx hb d_M_isEnough_69 (by decide) ?_
                        refine lv_icmp_ge (tgt := 101) hx hb d_M_isEnough_72 (by decide) (fun c_72 => ?_) (fun c_72 => ?_)
                        · skip
                          refine lv_iinc (v := nI (ib + 1)) (lv' := [(5, .int (nI (ib + 1))), (8, .int (nI ic)), (6, .long (lN M - lN (s0 ia) - lN (s1 ib))), (4, .int (nI ia)), (3, .int (nI (n2 + ic))), (0, .ref aM), (1, .long mo)]) hx hb d_M_isEnough_101 hl (k := 2) rfl (nI_succ _).symm (by decide) rfl (fun ls hl => ?_)
                          refine lv_goto (tgt := 22) hx hb d_M_isEnough_104 (by decide) ?_
                          exact ihb (ib + 1) _ (by omega) (by omega) (by omega) (mn_add hn2 (mn_in hs hn3 hic hp (Or.inr (Or.inl (nu_end (x := 500) (by omega) c_72))))) ls (lv_sub hl [0, 3, 4, 5, 6] rfl)
                        · skip
                          have c5 : ic < 81 := nu_on (x := 81) (by omega) c_65
                          have n35 : n2 + ic < 500 := nu_on (x := 500) (by omega) c_72
                          have b9 := hq ia a5
                          have b8 := hq ib b5
                          have b7 := hq ic c5
                          refine lv_aload_n hx hb d_M_isEnough_75 rfl (lv_at hl 5 rfl) ?_
                          refine va_get (D := (dC, dI)) (ci := 3) (v := .ref mT) (C := "RoomEchoesModel") (T := FT_M) (N := 12) hx hb hts (hi_ in_M) hown hK hP 0 rfl rfl 7 (by decide) (ht_ hts mw431) (fun _ h9 => h9) rfl d_M_isEnough_76 ?_
                          refine lv_sipush (v := 162) hx hb d_M_isEnough_79 (by decide) ?_
                          refine lv_iload hx hb d_M_isEnough_82 (lv_at hl 0 rfl) ?_
                          refine lv_iadd hx hb d_M_isEnough_84 ?_
                          refine tp_i (nI (162 + ic)) (nI_add 162 ic) ?_
                          refine va_lald hx hb hK hP 1 1 rfl rfl (vp_in_nI (by omega) (by omega)) d_M_isEnough_85 ?_
                          refine tp_l (so (162 + ic)) (by rw [nI_clamp (by omega)]) ?_
                          refine tp_l (lN (s2 ic)) (h2 ic c5) ?_
                          refine lv_lload hx hb d_M_isEnough_86 (lv_at hl 1 rfl) ?_
                          refine W.lcmp hx hb d_M_isEnough_88 ?_
                          refine lv_if_gt (tgt := 101) hx hb d_M_isEnough_89 (by decide) (fun c_89 => ?_) (fun c_89 => ?_)
                          · rw [lg_cmp_gt] at c_89
                            refine lv_iinc (v := nI (ib + 1)) (lv' := [(5, .int (nI (ib + 1))), (8, .int (nI ic)), (6, .long (lN M - lN (s0 ia) - lN (s1 ib))), (4, .int (nI ia)), (3, .int (nI (n2 + ic))), (0, .ref aM), (1, .long mo)]) hx hb d_M_isEnough_101 hl (k := 2) rfl (nI_succ _).symm (by decide) rfl (fun ls hl => ?_)
                            refine lv_goto (tgt := 22) hx hb d_M_isEnough_104 (by decide) ?_
                            exact ihb (ib + 1) _ (by omega) (by omega) (by omega) (mn_add hn2 (mn_in hs hn3 hic hp (Or.inr (Or.inr ⟨c5, (lf_iff hM8 (by omega) (by omega) (by omega)).mp c_89⟩)))) ls (lv_sub hl [0, 3, 4, 5, 6] rfl)
                          · rw [lg_cmp_gt] at c_89
                            refine lv_iinc (v := nI (n2 + ic + 1)) (lv' := [(3, .int (nI (n2 + ic + 1))), (8, .int (nI ic)), (6, .long (lN M - lN (s0 ia) - lN (s1 ib))), (5, .int (nI ib)), (4, .int (nI ia)), (0, .ref aM), (1, .long mo)]) hx hb d_M_isEnough_92 hl (k := 4) rfl (nI_succ _).symm (by decide) rfl (fun ls hl => ?_)
                            refine lv_iinc (v := nI (ic + 1)) (lv' := [(8, .int (nI (ic + 1))), (3, .int (nI (n2 + ic + 1))), (6, .long (lN M - lN (s0 ia) - lN (s1 ib))), (5, .int (nI ib)), (4, .int (nI ia)), (0, .ref aM), (1, .long mo)]) hx hb d_M_isEnough_95 hl (k := 1) rfl (nI_succ _).symm (by decide) rfl (fun ls hl => ?_)
                            refine lv_goto (tgt := 61) hx hb d_M_isEnough_98 (by decide) ?_
                            exact ihc (ic + 1) (by omega) (by omega) (by omega) (lf_step hp (fun z => c_89 ((lf_iff hM8 b9.1 b8.2.1 b7.2.2).mpr z))) ls (lv_sub hl [0, 2, 3, 4, 1, 5, 6] rfl)
                  exact lpc 82 0 (by omega) (by omega) (by omega) (fun a ha => absurd ha (Nat.not_lt_zero a)) ls (lv_sub hl [0, 1, 2, 3, 4, 5, 6] rfl)
          exact lpb 82 0 n1 (by omega) (by omega) (by omega) hn1 ls (lv_sub hl [0, 1, 2, 3, 4] rfl)
  exact lpa 82 0 0 (by omega) (by omega) (by omega) rfl ls (lv_sub hl [0, 1, 2, 3] rfl)
