def j_cell (L : Nat) (xs : Nat → Int32) (k : Nat) : Int32 := if nI L ≤ nI k then 0 else xs k
theorem xs_S {s : State} {A : Nat → Prop} {H : Heap} {locs : List Loc} {b L : Nat} {xs : Nat → Int32} {av : List Value} (hX : va_X b L xs s s.heap) (hbl : b < s.heap.size) (hbA : ¬ A b) (hS : va_S A s.heap H locs) : PreS s H (va_Pc av (fun U => va_X b L xs U U.heap)) av :=
  ⟨fun a U g mk q => ⟨q.1, va_X.moved (u := U) (U := U.calling g mk a) (Vm.Alike.refl _) q.2⟩, fun U hU hW => ⟨rfl, by show va_X b L xs U U.heap; rw [hU]; exact va_X.moved hW.alike (hX.kept (hS.2.1 b hbl hbA))⟩⟩

set_option maxHeartbeats 4000000 in
set_option maxRecDepth 100000 in
theorem c_L_cell (l : Launch) (b L : Nat) (xs : Nat → Int32) (k : Nat) (hL : L ≤ 2563) (hk9 : k < 2147483648) : Met l y_L_cell w_L_cell ({ frames := 0, cells := 0, slots := 0, locals := 0 }) (va_Pc [.ref b, .int (nI k)] (fun U => va_X b L xs U U.heap)) (k2_QcV (.int (j_cell L xs k))) 0 0 (fun _ => False) := by
  refine Met.ofW (cc := b_L_cell) (maxL := 2) (ret := (some .int)) (by decide) rfl ?_
  intro p e s m args below meth c s₁ B hml hv
  obtain ⟨rfl, hX⟩ := hv
  have hx := B.exec
  have hb := B.bytes
  have hr := B.returns
  have hts := atoms_spec (ws := w_L_cell) B.pre
  have hown : s.vm.findClass "RoomEchoesLaw" = some m.cls := findClass_of_methodNamed B.named
  have hlocks := B.notSynchronized
  have hl := lv_entry ([.ref b, .int (nI k)]) (n := 2) (Nat.le_of_ble_eq_true rfl)
  rw [lg_entry_eq]
  generalize (lg_sl ([.ref b, .int (nI k)]) ++ List.replicate (2 - (lg_sl ([.ref b, .int (nI k)])).length) Slot.unset).toArray = ls at hl ⊢
  have hl : lv_has ls 2 [(0, .ref b), (1, .int (nI k))] := hl
  have hbl : b < s.heap.size := by obtain ⟨scr, h1, _⟩ := hX; exact (Array.getElem?_eq_some_iff.mp h1).1
  have hbA : ¬ (fun _ : Nat => False) b := fun q => q
  have hS : va_S (fun _ : Nat => False) s.heap s.heap [] := va_S.rf
  refine lv_iload_n hx hb d_L_cell_0 rfl (lv_at hl 1 rfl) ?_
  refine lv_aload_n hx hb d_L_cell_1 rfl (lv_at hl 0 rfl) ?_
  refine va_slen hx hb hX hbl hbA hS d_L_cell_2 ?_
  refine tp_i (nI L) rfl ?_
  refine lv_icmp_ge (tgt := 12) hx hb d_L_cell_3 (by decide) (fun c_3 => ?_) (fun c_3 => ?_)
  · skip
    refine lv_iconst (v := 0) hx hb d_L_cell_12 (by decide) ?_
    exact W.iret (v := 0) hx hb hr (fun t ht hW => ⟨congrArg (fun z => Outcome.returned (some (Value.int z))) (if_pos c_3).symm, ht⟩) (fun q h => by cases h) d_L_cell_13
  · skip
    have hk : k < L := by rw [nI_leI (by omega) (by omega)] at c_3; omega
    refine lv_aload_n hx hb d_L_cell_6 rfl (lv_at hl 0 rfl) ?_
    refine lv_iload_n hx hb d_L_cell_7 rfl (lv_at hl 1 rfl) ?_
    refine va_sld hx hb hX hbl hbA hS (vp_in_nI (by omega) (by omega)) d_L_cell_8 ?_
    refine tp_i (xs k) (by rw [nI_clamp (by omega)]) ?_
    refine lv_goto (tgt := 13) hx hb d_L_cell_9 (by decide) ?_
    exact W.iret (v := xs k) hx hb hr (fun t ht hW => ⟨congrArg (fun z => Outcome.returned (some (Value.int z))) (if_neg c_3).symm, ht⟩) (fun q h => by cases h) d_L_cell_13

/-- the law's own end, with 1 on the stack, nothing written that was there before, its room as the claim has it -/
theorem lw_ret {p : Program} {l : Launch} {e : Env} {s : State} {m : MethodId} {below : List Frame} {meth : Method} {c : Code} {b : Nat} (hx : p.tables.exec = Jvm.exec) (hb : c.code = code) (hr : meth.sig.returnType = ret) (hlocks : meth.locks = false) {pc : Nat} {H : Heap} {ls : Array Slot} (hdg : decode code pc = .ok (.ireturn, 1)) : W p l e room_1 s m #[Value.ref b] below meth c H [] 1053 13237 (lw_Z below #[Value.ref b] s) (F0 m pc ls [.int 1]) := by
  intro T hT X
  obtain ⟨fs, hret, hrun, hended, hW, hframe⟩ := X.leave (v := some (.int 1)) (hlocks := hlocks) (fun h => by rw [hr] at h; cases h)
  have hmeth' : T.vm.method? m = some meth := X.method'
  refine ⟨T.setFrames fs, ?_, .returned (some (.int 1)), hrun, hended, rfl, ⟨_, rfl⟩, hW, hframe⟩
  jvm_step X.here [X.here.top, hx, hb, hdg, hmeth', hr, ret, narrow_b1]
  (try refine ⟨rfl, ?_⟩); (try refine ⟨rfl, ?_⟩)
  first | (intro acts; rw [hret _ acts rfl rfl rfl]) | rw [hret _ _ rfl rfl rfl]
  exact Steps.refl _
theorem lq_le {q L : Nat} (hL : L ≤ 2563) (hq : 5 * q ≤ 2563) (h : ¬ nI L - 5 < nI (3 + 5 * q)) : 5 * q + 8 ≤ L := by
  have e : (nI L).toInt = (L : Int) := nI_toInt (by omega)
  have e2 : (nI (3 + 5 * q)).toInt = ((3 + 5 * q : Nat) : Int) := nI_toInt (by omega)
  have z : (5 : Int32).toInt = 5 := rfl
  rw [Int32.lt_iff_toInt_lt, i_sub (by omega) (by omega), e, e2, z] at h
  omega
set_option maxHeartbeats 4000000 in
set_option maxRecDepth 100000 in
theorem law_loop {p : Program} (l : Launch) {e : Env} {s : State} {m : MethodId} {below : List Frame} {meth : Method} {c : Code} {b L : Nat} {xs : Nat → Int32} {dC : Nat → ClassId} {dI : Nat → Nat → Nat} {cI cL : ClassId} {A : Nat → Prop} {sa1 sa2 : Nat} (X0 : LX p l s m c b L xs (dC, dI) cI cL A sa1 sa2) (hr : meth.sig.returnType = ret) (hlocks : meth.locks = false) (hA2 : ∀ q, A q → s.heap.size ≤ q) (aR aX aY aZ aK aF aE aL rX kX rY kY rZ kZ aH aO aM mS mC mL mK mQ mT mD mA mB mG : Nat) (zs : Nat → Int32) (hL : L ≤ 2563) : ∀ (fu q : Nat) (od : Int32) (wd : Int32) (fX : Nat → Int64) (fY : Nat → Int64) (fZ : Nat → Int64) (gX : Nat → Int32) (gY : Nat → Int32) (gZ : Nat → Int32) (n : Nat) (f : Nat → Int64) (E : Nat → Int64) (G : Nat → Int64) (kp : Nat → Int32) (o : Nat → Int64) (th0 : Int32) (kn : Int32) (sc : Nat → Int32) (li : Nat → Int32) (sq : Nat → Int64) (so : Nat → Int64) (ds : Nat → Int64) (as : Nat → Int32) (bs : Nat → Int32) (cs : Nat → Int32), L < 5 * q + fu → 5 * q ≤ L → RIz zs sc li kp E G od wd → (kn = 0 ∨ (kn = 1 ∧ MRz zs sc li ds as bs cs)) → ∀ (H : Heap) (locs : List Loc), va_P (dC, dI) vwCl (LWx cI cL aR aX aY aZ aK aF aE aL rX kX rY kY rZ kZ aH aO aM mS mC mL mK mQ mT mD mA mB mG zs od wd fX fY fZ gX gY gZ n f E G kp o th0 kn sc li sq so ds as bs cs) H → va_D A (LWx cI cL aR aX aY aZ aK aF aE aL rX kX rY kY rZ kZ aH aO aM mS mC mL mK mQ mT mD mA mB mG zs od wd fX fY fZ gX gY gZ n f E G kp o th0 kn sc li sq so ds as bs cs) → va_S A s.heap H locs → ∀ (ls : Array Slot), lv_has ls 8 [(4, .int (nI (3 + 5 * q))), (3, .ref aO), (2, .ref aM), (1, .ref aR), (0, .ref b)] → W p l e room_1 s m #[Value.ref b] below meth c H locs (27 + q) (5033 + 6 * q) (lw_Z below #[Value.ref b] s) (F0 m 53 ls []) := by
  obtain ⟨hx, hb, hml, hown, hts, hM, hX, hbl, hbA, hA, hst, hT0⟩ := id X0
  intro fu
  induction fu with
  | zero => intro q od wd fX fY fZ gX gY gZ n f E G kp o th0 kn sc li sq so ds as bs cs hf9 hq5 hI hR H locs hP hD hS ls hl; omega
  | succ fu ih =>
    intro q od wd fX fY fZ gX gY gZ n f E G kp o th0 kn sc li sq so ds as bs cs hf9 hq5 hI hR H locs hP hD hS ls hl
    refine lv_iload hx hb d_L_law_53 (lv_at hl 0 rfl) ?_
    refine lv_aload_n hx hb d_L_law_55 rfl (lv_at hl 4 rfl) ?_
    refine va_slen hx hb hX hbl hbA hS d_L_law_56 ?_
    refine tp_i (nI L) rfl ?_
    refine lv_iconst (v := 5) hx hb d_L_law_57 (by decide) ?_
    refine lv_isub hx hb d_L_law_58 ?_
    refine lv_icmp_gt (tgt := 926) hx hb d_L_law_59 (by decide) (fun c_59 => ?_) (fun c_59 => ?_)
    · skip
      refine lv_iconst (v := 1) hx hb d_L_law_926 (by decide) ?_
      refine va_forget (fun z hz => hA2 _ (hS.2.2 z hz)) ?_
      refine W.widen (k := 1053) (n := 13237) (by omega) (by omega) ?_
      exact lw_ret hx hb hr hlocks d_L_law_927
    · skip
      have hq8 : 5 * q + 8 ≤ L := lq_le (by omega) (by omega) c_59
      have KK : LK p l e s m below meth c b (dC, dI) cI cL A aR aX aY aZ aK aF aE aL rX kX rY kY rZ kZ aH aO aM mS mC mL mK mQ mT mD mA mB mG zs q := by
        intro od' wd' fX' fY' fZ' gX' gY' gZ' n' f' E' G' kp' o' th0' kn' sc' li' sq' so' ds' as' bs' cs' hI hR H locs hP hD hS ls hl
        refine lv_iinc (v := nI (3 + 5 * (q + 1))) (lv' := [(4, .int (nI (3 + 5 * (q + 1)))), (3, .ref aO), (2, .ref aM), (1, .ref aR), (0, .ref b)]) hx hb d_L_law_920 hl (k := 0) rfl (nI_add (3 + 5 * q) 5) (by decide) rfl (fun ls hl => ?_)
        refine lv_goto (tgt := 53) hx hb d_L_law_923 (by decide) ?_
        exact ih (q + 1) od' wd' fX' fY' fZ' gX' gY' gZ' n' f' E' G' kp' o' th0' kn' sc' li' sq' so' ds' as' bs' cs' (by omega) (by omega) hI hR _ _ hP hD hS ls hl
      refine lv_aload_n hx hb d_L_law_62 rfl (lv_at hl 4 rfl) ?_
      refine lv_iload hx hb d_L_law_63 (lv_at hl 0 rfl) ?_
      refine va_sld hx hb hX hbl hbA hS (vp_in_nI (by omega) (by omega)) d_L_law_65 ?_
      refine tp_i (xs (3 + 5 * q)) (by rw [nI_clamp (by omega)]) ?_
      refine lv_bipush (v := 15) hx hb d_L_law_66 (by decide) ?_
      refine lv_iand hx hb d_L_law_68 ?_
      by_cases c_69_0 : ((xs (3 + 5 * q)) &&& 15) = 0
      · refine lv_tableIn (tgt := 128) hx hb d_L_law_69 (by rw [c_69_0]; decide) (by rw [c_69_0]; decide) (by rw [c_69_0]; rfl) (by decide) ?_
        by_cases h : wpt (zs 0) (zs 1) (zs 2) (xs (3 + 5 * q + 1)) (xs (3 + 5 * q + 2)) (xs (3 + 5 * q + 3))
        · exact lc_0_y l X0 aR aX aY aZ aK aF aE aL rX kX rY kY rZ kZ aH aO aM mS mC mL mK mQ mT mD mA mB mG zs od wd fX fY fZ gX gY gZ n f E G kp o th0 kn sc li sq so ds as bs cs q hq8 hL (xs (3 + 5 * q + 1)) (xs (3 + 5 * q + 2)) (xs (3 + 5 * q + 3)) (xs (3 + 5 * q + 4)) rfl rfl rfl rfl hI hR h H locs hP hD hS ls (lv_sub hl [0, 1, 2, 3, 4] rfl) KK
        · exact lc_0_n l X0 aR aX aY aZ aK aF aE aL rX kX rY kY rZ kZ aH aO aM mS mC mL mK mQ mT mD mA mB mG zs od wd fX fY fZ gX gY gZ n f E G kp o th0 kn sc li sq so ds as bs cs q hq8 hL (xs (3 + 5 * q + 1)) (xs (3 + 5 * q + 2)) (xs (3 + 5 * q + 3)) (xs (3 + 5 * q + 4)) rfl rfl rfl rfl hI hR h H locs hP hD hS ls (lv_sub hl [0, 1, 2, 3, 4] rfl) KK
      by_cases c_69_1 : ((xs (3 + 5 * q)) &&& 15) = 1
      · refine lv_tableIn (tgt := 188) hx hb d_L_law_69 (by rw [c_69_1]; decide) (by rw [c_69_1]; decide) (by rw [c_69_1]; rfl) (by decide) ?_
        by_cases h : wpt (zs 0) (zs 1) (zs 2) (xs (3 + 5 * q + 1)) (xs (3 + 5 * q + 2)) (xs (3 + 5 * q + 3))
        · exact lc_1_y l X0 aR aX aY aZ aK aF aE aL rX kX rY kY rZ kZ aH aO aM mS mC mL mK mQ mT mD mA mB mG zs od wd fX fY fZ gX gY gZ n f E G kp o th0 kn sc li sq so ds as bs cs q hq8 hL (xs (3 + 5 * q + 1)) (xs (3 + 5 * q + 2)) (xs (3 + 5 * q + 3)) (xs (3 + 5 * q + 4)) rfl rfl rfl rfl hI hR h H locs hP hD hS ls (lv_sub hl [0, 1, 2, 3, 4] rfl) KK
        · exact lc_1_n l X0 aR aX aY aZ aK aF aE aL rX kX rY kY rZ kZ aH aO aM mS mC mL mK mQ mT mD mA mB mG zs od wd fX fY fZ gX gY gZ n f E G kp o th0 kn sc li sq so ds as bs cs q hq8 hL (xs (3 + 5 * q + 1)) (xs (3 + 5 * q + 2)) (xs (3 + 5 * q + 3)) (xs (3 + 5 * q + 4)) rfl rfl rfl rfl hI hR h H locs hP hD hS ls (lv_sub hl [0, 1, 2, 3, 4] rfl) KK
      by_cases c_69_2 : ((xs (3 + 5 * q)) &&& 15) = 2
      · refine lv_tableIn (tgt := 248) hx hb d_L_law_69 (by rw [c_69_2]; decide) (by rw [c_69_2]; decide) (by rw [c_69_2]; rfl) (by decide) ?_
        by_cases h : wi (xs (3 + 5 * q + 1)) 0 5 ∧ wi (xs (3 + 5 * q + 2)) 0 1000
        · exact lc_2_y l X0 aR aX aY aZ aK aF aE aL rX kX rY kY rZ kZ aH aO aM mS mC mL mK mQ mT mD mA mB mG zs od wd fX fY fZ gX gY gZ n f E G kp o th0 kn sc li sq so ds as bs cs q hq8 hL (xs (3 + 5 * q + 1)) (xs (3 + 5 * q + 2)) (xs (3 + 5 * q + 3)) (xs (3 + 5 * q + 4)) rfl rfl rfl rfl hI hR h H locs hP hD hS ls (lv_sub hl [0, 1, 2, 3, 4] rfl) KK
        · exact lc_2_n l X0 aR aX aY aZ aK aF aE aL rX kX rY kY rZ kZ aH aO aM mS mC mL mK mQ mT mD mA mB mG zs od wd fX fY fZ gX gY gZ n f E G kp o th0 kn sc li sq so ds as bs cs q hq8 hL (xs (3 + 5 * q + 1)) (xs (3 + 5 * q + 2)) (xs (3 + 5 * q + 3)) (xs (3 + 5 * q + 4)) rfl rfl rfl rfl hI hR h H locs hP hD hS ls (lv_sub hl [0, 1, 2, 3, 4] rfl) KK
      by_cases c_69_3 : ((xs (3 + 5 * q)) &&& 15) = 3
      · refine lv_tableIn (tgt := 316) hx hb d_L_law_69 (by rw [c_69_3]; decide) (by rw [c_69_3]; decide) (by rw [c_69_3]; rfl) (by decide) ?_
        by_cases h : wn3 (xs (3 + 5 * q + 1)) (xs (3 + 5 * q + 2)) (xs (3 + 5 * q + 3)) ∧ wi (xs (3 + 5 * q + 4)) 0 3
        · exact lc_3_y l X0 aR aX aY aZ aK aF aE aL rX kX rY kY rZ kZ aH aO aM mS mC mL mK mQ mT mD mA mB mG zs od wd fX fY fZ gX gY gZ n f E G kp o th0 kn sc li sq so ds as bs cs q hq8 hL (xs (3 + 5 * q + 1)) (xs (3 + 5 * q + 2)) (xs (3 + 5 * q + 3)) (xs (3 + 5 * q + 4)) rfl rfl rfl rfl hI hR h H locs hP hD hS ls (lv_sub hl [0, 1, 2, 3, 4] rfl) KK
        · exact lc_3_n l X0 aR aX aY aZ aK aF aE aL rX kX rY kY rZ kZ aH aO aM mS mC mL mK mQ mT mD mA mB mG zs od wd fX fY fZ gX gY gZ n f E G kp o th0 kn sc li sq so ds as bs cs q hq8 hL (xs (3 + 5 * q + 1)) (xs (3 + 5 * q + 2)) (xs (3 + 5 * q + 3)) (xs (3 + 5 * q + 4)) rfl rfl rfl rfl hI hR h H locs hP hD hS ls (lv_sub hl [0, 1, 2, 3, 4] rfl) KK
      by_cases c_69_4 : ((xs (3 + 5 * q)) &&& 15) = 4
      · refine lv_tableIn (tgt := 407) hx hb d_L_law_69 (by rw [c_69_4]; decide) (by rw [c_69_4]; decide) (by rw [c_69_4]; rfl) (by decide) ?_
        by_cases h : wi (xs (3 + 5 * q + 1)) 0 499 ∧ wi (xs (3 + 5 * q + 2)) 0 6
        · exact lc_4_y l X0 aR aX aY aZ aK aF aE aL rX kX rY kY rZ kZ aH aO aM mS mC mL mK mQ mT mD mA mB mG zs od wd fX fY fZ gX gY gZ n f E G kp o th0 kn sc li sq so ds as bs cs q hq8 hL (xs (3 + 5 * q + 1)) (xs (3 + 5 * q + 2)) (xs (3 + 5 * q + 3)) (xs (3 + 5 * q + 4)) rfl rfl rfl rfl hI hR h H locs hP hD hS ls (lv_sub hl [0, 1, 2, 3, 4] rfl) KK
        · exact lc_4_n l X0 aR aX aY aZ aK aF aE aL rX kX rY kY rZ kZ aH aO aM mS mC mL mK mQ mT mD mA mB mG zs od wd fX fY fZ gX gY gZ n f E G kp o th0 kn sc li sq so ds as bs cs q hq8 hL (xs (3 + 5 * q + 1)) (xs (3 + 5 * q + 2)) (xs (3 + 5 * q + 3)) (xs (3 + 5 * q + 4)) rfl rfl rfl rfl hI hR h H locs hP hD hS ls (lv_sub hl [0, 1, 2, 3, 4] rfl) KK
      by_cases c_69_5 : ((xs (3 + 5 * q)) &&& 15) = 5
      · refine lv_tableIn (tgt := 474) hx hb d_L_law_69 (by rw [c_69_5]; decide) (by rw [c_69_5]; decide) (by rw [c_69_5]; rfl) (by decide) ?_
        by_cases h : wn3 (xs (3 + 5 * q + 1)) (xs (3 + 5 * q + 2)) (xs (3 + 5 * q + 3))
        · exact lc_5_y l X0 aR aX aY aZ aK aF aE aL rX kX rY kY rZ kZ aH aO aM mS mC mL mK mQ mT mD mA mB mG zs od wd fX fY fZ gX gY gZ n f E G kp o th0 kn sc li sq so ds as bs cs q hq8 hL (xs (3 + 5 * q + 1)) (xs (3 + 5 * q + 2)) (xs (3 + 5 * q + 3)) (xs (3 + 5 * q + 4)) rfl rfl rfl rfl hI hR h H locs hP hD hS ls (lv_sub hl [0, 1, 2, 3, 4] rfl) KK
        · exact lc_5_n l X0 aR aX aY aZ aK aF aE aL rX kX rY kY rZ kZ aH aO aM mS mC mL mK mQ mT mD mA mB mG zs od wd fX fY fZ gX gY gZ n f E G kp o th0 kn sc li sq so ds as bs cs q hq8 hL (xs (3 + 5 * q + 1)) (xs (3 + 5 * q + 2)) (xs (3 + 5 * q + 3)) (xs (3 + 5 * q + 4)) rfl rfl rfl rfl hI hR h H locs hP hD hS ls (lv_sub hl [0, 1, 2, 3, 4] rfl) KK
      by_cases c_69_6 : ((xs (3 + 5 * q)) &&& 15) = 6
      · refine lv_tableIn (tgt := 554) hx hb d_L_law_69 (by rw [c_69_6]; decide) (by rw [c_69_6]; decide) (by rw [c_69_6]; rfl) (by decide) ?_
        by_cases h : 0 ≤ (((xs (3 + 5 * q + 1)).toInt64 <<< ((32 : Int32).toInt64 &&& 63)) ||| ((xs (3 + 5 * q + 2)).toInt64 &&& 4294967295))
        · exact lc_6_y l X0 aR aX aY aZ aK aF aE aL rX kX rY kY rZ kZ aH aO aM mS mC mL mK mQ mT mD mA mB mG zs od wd fX fY fZ gX gY gZ n f E G kp o th0 kn sc li sq so ds as bs cs q hq8 hL (xs (3 + 5 * q + 1)) (xs (3 + 5 * q + 2)) (xs (3 + 5 * q + 3)) (xs (3 + 5 * q + 4)) rfl rfl rfl rfl hI hR h H locs hP hD hS ls (lv_sub hl [0, 1, 2, 3, 4] rfl) KK
        · exact lc_6_n l X0 aR aX aY aZ aK aF aE aL rX kX rY kY rZ kZ aH aO aM mS mC mL mK mQ mT mD mA mB mG zs od wd fX fY fZ gX gY gZ n f E G kp o th0 kn sc li sq so ds as bs cs q hq8 hL (xs (3 + 5 * q + 1)) (xs (3 + 5 * q + 2)) (xs (3 + 5 * q + 3)) (xs (3 + 5 * q + 4)) rfl rfl rfl rfl hI hR h H locs hP hD hS ls (lv_sub hl [0, 1, 2, 3, 4] rfl) KK
      by_cases c_69_7 : ((xs (3 + 5 * q)) &&& 15) = 7
      · refine lv_tableIn (tgt := 642) hx hb d_L_law_69 (by rw [c_69_7]; decide) (by rw [c_69_7]; decide) (by rw [c_69_7]; rfl) (by decide) ?_
        by_cases h : wi (xs (3 + 5 * q + 1)) 0 499 ∧ wi (xs (3 + 5 * q + 2)) (xs (3 + 5 * q + 1)) 499
        · exact lc_7_y l X0 aR aX aY aZ aK aF aE aL rX kX rY kY rZ kZ aH aO aM mS mC mL mK mQ mT mD mA mB mG zs od wd fX fY fZ gX gY gZ n f E G kp o th0 kn sc li sq so ds as bs cs q hq8 hL (xs (3 + 5 * q + 1)) (xs (3 + 5 * q + 2)) (xs (3 + 5 * q + 3)) (xs (3 + 5 * q + 4)) rfl rfl rfl rfl hI hR h H locs hP hD hS ls (lv_sub hl [0, 1, 2, 3, 4] rfl) KK
        · exact lc_7_n l X0 aR aX aY aZ aK aF aE aL rX kX rY kY rZ kZ aH aO aM mS mC mL mK mQ mT mD mA mB mG zs od wd fX fY fZ gX gY gZ n f E G kp o th0 kn sc li sq so ds as bs cs q hq8 hL (xs (3 + 5 * q + 1)) (xs (3 + 5 * q + 2)) (xs (3 + 5 * q + 3)) (xs (3 + 5 * q + 4)) rfl rfl rfl rfl hI hR h H locs hP hD hS ls (lv_sub hl [0, 1, 2, 3, 4] rfl) KK
      by_cases c_69_8 : ((xs (3 + 5 * q)) &&& 15) = 8
      · refine lv_tableIn (tgt := 709) hx hb d_L_law_69 (by rw [c_69_8]; decide) (by rw [c_69_8]; decide) (by rw [c_69_8]; rfl) (by decide) ?_
        by_cases h : 0 ≤ (((xs (3 + 5 * q + 1)).toInt64 <<< ((32 : Int32).toInt64 &&& 63)) ||| ((xs (3 + 5 * q + 2)).toInt64 &&& 4294967295)) ∧ wi (xs (3 + 5 * q + 3)) 0 1
        · exact lc_8_y l X0 aR aX aY aZ aK aF aE aL rX kX rY kY rZ kZ aH aO aM mS mC mL mK mQ mT mD mA mB mG zs od wd fX fY fZ gX gY gZ n f E G kp o th0 kn sc li sq so ds as bs cs q hq8 hL (xs (3 + 5 * q + 1)) (xs (3 + 5 * q + 2)) (xs (3 + 5 * q + 3)) (xs (3 + 5 * q + 4)) rfl rfl rfl rfl hI hR h H locs hP hD hS ls (lv_sub hl [0, 1, 2, 3, 4] rfl) KK
        · exact lc_8_n l X0 aR aX aY aZ aK aF aE aL rX kX rY kY rZ kZ aH aO aM mS mC mL mK mQ mT mD mA mB mG zs od wd fX fY fZ gX gY gZ n f E G kp o th0 kn sc li sq so ds as bs cs q hq8 hL (xs (3 + 5 * q + 1)) (xs (3 + 5 * q + 2)) (xs (3 + 5 * q + 3)) (xs (3 + 5 * q + 4)) rfl rfl rfl rfl hI hR h H locs hP hD hS ls (lv_sub hl [0, 1, 2, 3, 4] rfl) KK
      by_cases c_69_9 : ((xs (3 + 5 * q)) &&& 15) = 9
      · refine lv_tableIn (tgt := 808) hx hb d_L_law_69 (by rw [c_69_9]; decide) (by rw [c_69_9]; decide) (by rw [c_69_9]; rfl) (by decide) ?_
        by_cases h : wi (xs (3 + 5 * q + 1)) 0 1000
        · exact lc_9_y l X0 aR aX aY aZ aK aF aE aL rX kX rY kY rZ kZ aH aO aM mS mC mL mK mQ mT mD mA mB mG zs od wd fX fY fZ gX gY gZ n f E G kp o th0 kn sc li sq so ds as bs cs q hq8 hL (xs (3 + 5 * q + 1)) (xs (3 + 5 * q + 2)) (xs (3 + 5 * q + 3)) (xs (3 + 5 * q + 4)) rfl rfl rfl rfl hI hR h H locs hP hD hS ls (lv_sub hl [0, 1, 2, 3, 4] rfl) KK
        · exact lc_9_n l X0 aR aX aY aZ aK aF aE aL rX kX rY kY rZ kZ aH aO aM mS mC mL mK mQ mT mD mA mB mG zs od wd fX fY fZ gX gY gZ n f E G kp o th0 kn sc li sq so ds as bs cs q hq8 hL (xs (3 + 5 * q + 1)) (xs (3 + 5 * q + 2)) (xs (3 + 5 * q + 3)) (xs (3 + 5 * q + 4)) rfl rfl rfl rfl hI hR h H locs hP hD hS ls (lv_sub hl [0, 1, 2, 3, 4] rfl) KK
      by_cases c_69_10 : ((xs (3 + 5 * q)) &&& 15) = 10
      · refine lv_tableIn (tgt := 864) hx hb d_L_law_69 (by rw [c_69_10]; decide) (by rw [c_69_10]; decide) (by rw [c_69_10]; rfl) (by decide) ?_
        by_cases h : wi (xs (3 + 5 * q + 1)) (-1) 499
        · exact lc_10_y l X0 aR aX aY aZ aK aF aE aL rX kX rY kY rZ kZ aH aO aM mS mC mL mK mQ mT mD mA mB mG zs od wd fX fY fZ gX gY gZ n f E G kp o th0 kn sc li sq so ds as bs cs q hq8 hL (xs (3 + 5 * q + 1)) (xs (3 + 5 * q + 2)) (xs (3 + 5 * q + 3)) (xs (3 + 5 * q + 4)) rfl rfl rfl rfl hI hR h H locs hP hD hS ls (lv_sub hl [0, 1, 2, 3, 4] rfl) KK
        · exact lc_10_n l X0 aR aX aY aZ aK aF aE aL rX kX rY kY rZ kZ aH aO aM mS mC mL mK mQ mT mD mA mB mG zs od wd fX fY fZ gX gY gZ n f E G kp o th0 kn sc li sq so ds as bs cs q hq8 hL (xs (3 + 5 * q + 1)) (xs (3 + 5 * q + 2)) (xs (3 + 5 * q + 3)) (xs (3 + 5 * q + 4)) rfl rfl rfl rfl hI hR h H locs hP hD hS ls (lv_sub hl [0, 1, 2, 3, 4] rfl) KK
      refine lv_tableOut (tgt := 920) hx hb d_L_law_69 (by have e0 : ((xs (3 + 5 * q)) &&& 15).toInt ≠ 0 := ti_ne c_69_0; have e1 : ((xs (3 + 5 * q)) &&& 15).toInt ≠ 1 := ti_ne c_69_1; have e2 : ((xs (3 + 5 * q)) &&& 15).toInt ≠ 2 := ti_ne c_69_2; have e3 : ((xs (3 + 5 * q)) &&& 15).toInt ≠ 3 := ti_ne c_69_3; have e4 : ((xs (3 + 5 * q)) &&& 15).toInt ≠ 4 := ti_ne c_69_4; have e5 : ((xs (3 + 5 * q)) &&& 15).toInt ≠ 5 := ti_ne c_69_5; have e6 : ((xs (3 + 5 * q)) &&& 15).toInt ≠ 6 := ti_ne c_69_6; have e7 : ((xs (3 + 5 * q)) &&& 15).toInt ≠ 7 := ti_ne c_69_7; have e8 : ((xs (3 + 5 * q)) &&& 15).toInt ≠ 8 := ti_ne c_69_8; have e9 : ((xs (3 + 5 * q)) &&& 15).toInt ≠ 9 := ti_ne c_69_9; have e10 : ((xs (3 + 5 * q)) &&& 15).toInt ≠ 10 := ti_ne c_69_10; omega) (by decide) ?_
      refine W.widen (k := 27 + (q + 1)) (n := 5033 + 6 * (q + 1)) (by omega) (by omega) ?_
      exact KK od wd fX fY fZ gX gY gZ n f E G kp o th0 kn sc li sq so ds as bs cs hI hR H locs hP hD hS ls (lv_sub hl [0, 1, 2, 3, 4] rfl)
