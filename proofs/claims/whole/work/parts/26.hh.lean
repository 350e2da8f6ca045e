/-! METHODS WITH A HANDLER: a body that doesn't throw; a call that throws and is caught -/
theorem metH {l : Launch} {y : MethodName} {ws ws' : List Cond} {rm : Room} {Pc : Array Value → State → Prop} {Qc : Array Value → State → Outcome → State → Prop} {mc ms : Nat} {free : Addr → Prop} {cc : ByteArray} {maxL : Nat} {ret : Option FieldType} {hh : List (Nat × Nat × Nat × Nat)}
    (hy : plainName y.cls = true) (hw : ws = Cond.codeWith y cc maxL ret hh :: ws')
    (body : ∀ p e s m args below meth c s₁, BodyLoose p l y (headSpec ws rm) cc maxL ret e s m args below meth c s₁ → c.maxLocals = maxL → c.exceptionTable.toList = tableOf hh → Pc args s →
      W p l e (headSpec ws rm).room s m args below meth c s.heap [] 0 0 (MQ below Qc args s mc ms free) (entryFrame m args maxL)) : Met l y ws rm Pc Qc mc ms free := by
  refine MetFree.of_bodyS (code := cc) (maxLocals := maxL) (ret := ret) hy ?_ ?_
  · intro args s m h hn
    obtain ⟨m9, meth, c, hn9, h1, h2, h3, h4, -, h5, h6, -⟩ := Cond.codeWith_spec (atoms_spec (ws := ws) h _ (by rw [hw]; exact List.mem_cons_self))
    cases hn.symm.trans hn9
    exact ⟨meth, c, h1, h2, h3, h4, h5, h6⟩
  · intro p e s m args below meth c s₁ B hml hP _
    have hh0 : s₁.heap = s.heap := by rw [B.state]; rfl
    have ht : c.exceptionTable.toList = tableOf hh := vx_table (x := y) B (atoms_spec (ws := ws) B.pre _ (by rw [hw]; exact List.mem_cons_self))
    obtain ⟨t, a1, o, b1, b2, b3⟩ := body p e s m args below meth c s₁ B hml ht hP s₁ hh0 (Stand.of_body B)
    exact ⟨t, o, a1, b1, b2, ⟨b3.1, b3.2⟩⟩
abbrev wt_P (D : va_G) (cI cL : ClassId) (ws : va_W) (sz sa1 sa2 : Nat) (av : List Value) : Array Value → State → Prop := va_Pc av (fun U => U.heap.size = sz ∧ va_P D vwCl ws U.heap ∧ am D cI cL U ∧ va_D (fun _ => True) ws ∧ ts (fun _ => False) sa1 sa2 U U.heap)
section HHS
variable {p : Program} {l : Launch} {e : Env} {R : Room} {s : State} {m : MethodId} {args : Array Value} {below : List Frame} {meth : Method} {c : Code} {H H0 : Heap} {locs : List Loc} {cells slots : Nat} {Q : State → Prop}
variable {D : va_G} {cI cL : ClassId} {ws : va_W} {av : List Value} {sa1 sa2 : Nat} {pc : Nat} {ls : Array Slot} {rest st0 : List Value} {a : Array Value} {A0 : Nat → Prop}
theorem wt_bl {sz : Nat} : FrameBlind (wt_P D cI cL ws sz sa1 sa2 av) := fun a U g mk q => ⟨q.1, q.2.1, q.2.2.1, am.same (u := U) (U := U.calling g mk a) rfl q.2.2.2.1, q.2.2.2.2.1, ts.same (u := U) (U := U.calling g mk a) rfl q.2.2.2.2.2⟩
theorem wt_S {A : Nat → Prop} (hM : am D cI cL s) (hP : va_P D vwCl ws H) (hD : va_D A ws) (hT : ts (fun _ => False) sa1 sa2 s H) : PreS s H (wt_P D cI cL ws H.size sa1 sa2 av) av :=
  ⟨wt_bl, fun U hU hW => ⟨rfl, by rw [hU], by rw [hU]; exact hP, am.warm hW hM, hD.weaken (fun _ _ _ _ => trivial), by rw [hU]; exact ts.warm hW hT⟩⟩
theorem tx_catch (hr : vx_Run p l e R s m args below meth c H locs cells slots 1 6 (F0 m pc ls st0) rest (tx_Q a) tx_X (fun _ => False)) (hP : va_P D vwCl ws H) (hS : va_S A0 H0 H locs) {own : String} (hown : s.vm.findClass own = some m.cls) {x : ExceptionTableEntry} (htab : c.exceptionTable.toList = [x]) (hx : covers x pc = true) (h0 : x.catchType ≠ 0)
    (hlink : (Cond.classLink own x.catchType IAE).before args s = true) (hc : va_Nw (.castable IAE IAE) s)
    (kk : ∀ (q : Nat) (H1 : Heap) (locs1 : List Loc), va_P D vwCl ws H1 → va_S A0 H0 H1 locs1 → W p l e R s m args below meth c H1 locs1 (cells + 1) (slots + 6) Q (F0 m x.handlerPc ls [.ref q])) : W p l e R s m args below meth c H locs cells slots Q (F0 m pc ls st0) := by
  refine vx_callv hr hS (fun q _ h => h.elim) (fun q h => h.elim) (fun q _ h => h.elim) (fun E ce q9 u t H1 locs1 ht hv hp hB hz hk hS1 hcell hvm hcl => ?_) (fun u t H1 locs1 ht hv hp hB hz hk hS => hp.elim)
  have hB : E = IAE := hB
  subst hB
  exact vx_catch hown [] x [] htab (fun z hz => nomatch hz) hx h0 hlink (va_Nw.use rfl hc) hcell hvm hcl (kk q9 H1 locs1 (hP.kept (fun k y hy => hk y.1 ((hP k y hy).lt) id)) hS1)
end HHS
theorem gi_SW {own : String} {idx : Nat} {y : MethodName} {b : ByteArray} {maxL : Nat} {ret : Option FieldType} {hh : List (Nat × Nat × Nat × Nat)} {c0 : Cond} (h : Cond.codeWith y b maxL ret hh ∈ tb) (h1 : Cond.methodLink own idx y ∈ tb) (h2 : Cond.static y ∈ tb) (h4 : Cond.initialized y.cls ∈ tb) : GoodIn (c0 :: tb) (va_wsS own idx y (Cond.codeWith y b maxL ret hh :: tb)) := by
  intro w hw
  have hm : w ∈ tb := by
    unfold va_wsS at hw
    simp only [List.cons_append, List.nil_append, List.mem_cons] at hw
    rcases hw with rfl | rfl | rfl | rfl | hw
    · exact h1
    · exact h2
    · exact h4
    · exact h
    · exact hw
  exact ⟨List.mem_cons_of_mem _ hm, good_of_word (List.mem_filter.mp hm).2⟩
theorem wi_nI {p : Int32} {hi : Nat} (h : wi p 0 (nI hi)) (h2 : hi < 2147483648) : p = nI p.toNatClampNeg ∧ p.toNatClampNeg ≤ hi := by
  have a := h.1
  have b := h.2
  rw [Int32.le_iff_toInt_le] at a b
  rw [nI_toInt h2] at b
  have z : (0 : Int32).toInt = 0 := rfl
  have q : p.toInt.toNat = p.toNatClampNeg := rfl
  have lt := Int32.toInt_lt p
  refine ⟨i_inj ?_, by omega⟩
  rw [nI_toInt (by omega)]
  omega
theorem up0 {f : Nat → Int64} {v w : Int64} (h : v = w) : vp_updL f 0 v 0 = w := by rw [← h]; exact if_pos rfl
