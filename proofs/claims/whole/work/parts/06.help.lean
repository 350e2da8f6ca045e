/-! HELP: contracts of methods that only read, of methods that write a world; what a call of them gives. -/
/-- what holds of the tables in every state of ours: the classes' fields, the two array classes, the links of a nest -/
def am (D : va_G) (cI cL : ClassId) (U : State) : Prop := va_K D vwCl [(cI, .int), (cL, .long)] U ∧ va_Nw nwF U ∧ va_Nw nwW U ∧ va_Nw nwN U ∧ U.vm.findClass ("[" ++ FieldType.int.toString) = some cI ∧ U.vm.findClass ("[" ++ FieldType.long.toString) = some cL
theorem am.warm {D : va_G} {cI cL : ClassId} {s U : State} (hW : s.WarmedH U.vm) (h : am D cI cL s) : am D cI cL U :=
  ⟨va_K.moved hW.alike h.1, va_Nw.warmM hW h.2.1, va_Nw.warmM hW h.2.2.1, va_Nw.warmM hW h.2.2.2.1, by rw [hW.alike.findClass]; exact h.2.2.2.2.1, by rw [hW.alike.findClass]; exact h.2.2.2.2.2⟩
theorem am.same {D : va_G} {cI cL : ClassId} {u U : State} (hv : u.vm = U.vm) (h : am D cI cL u) : am D cI cL U :=
  ⟨va_K.moved (by rw [hv]; exact Vm.Alike.refl _) h.1, va_Nw.same rfl hv h.2.1, va_Nw.same rfl hv h.2.2.1, va_Nw.same rfl hv h.2.2.2.1, by rw [← hv]; exact h.2.2.2.2.1, by rw [← hv]; exact h.2.2.2.2.2⟩
abbrev rd_P (D : va_G) (cI cL : ClassId) (ws : va_W) (av : List Value) : Array Value → State → Prop := va_Pc av (fun U => va_P D vwCl ws U.heap ∧ am D cI cL U)
abbrev st_P (av : List Value) : Array Value → State → Prop := va_Pc av (fun _ => True)
abbrev wr_P (D : va_G) (cI cL : ClassId) (ws : va_W) (sz : Nat) (av : List Value) : Array Value → State → Prop := va_Pc av (fun U => U.heap.size = sz ∧ va_P D vwCl ws U.heap ∧ am D cI cL U ∧ va_D (fun _ => True) ws)
abbrev wr_B (D : va_G) (A : Nat → Prop) (w1 : va_W) : Unit → State → Prop := fun _ t => va_P D vwCl w1 t.heap ∧ va_D A w1
abbrev wr_v (D : va_G) (A : Nat → Prop) (w1 : va_W) : Array Value → State → Outcome → State → Prop := va_Qv (fun _ : Unit => True) (wr_B D A w1) A
abbrev wr_i (v : Int32) (D : va_G) (A : Nat → Prop) (w1 : va_W) : Array Value → State → Outcome → State → Prop := va_Qi (fun (r : Int32) (_ : Unit) => r = v) (wr_B D A w1) A
abbrev wr_l (v : Int64) (D : va_G) (A : Nat → Prop) (w1 : va_W) : Array Value → State → Outcome → State → Prop := va_Ql (fun (r : Int64) (_ : Unit) => r = v) (wr_B D A w1) A
section HLP
variable {p : Program} {l : Launch} {e : Env} {R : Room} {s : State} {m : MethodId} {args : Array Value} {below : List Frame} {meth : Method} {c : Code} {H H0 : Heap} {locs : List Loc} {cells slots : Nat} {Q : State → Prop}
variable {D : va_G} {cI cL : ClassId} {ws wc wr w1 : va_W} {av : List Value} {A0 : Nat → Prop}
theorem rd_bl : FrameBlind (rd_P D cI cL ws av) := fun a U g mk q => ⟨q.1, q.2.1, am.same (u := U) (U := U.calling g mk a) rfl q.2.2⟩
theorem rd_S (hM : am D cI cL s) (hP : va_P D vwCl ws H) : PreS s H (rd_P D cI cL ws av) av := ⟨rd_bl, fun U hU hW => ⟨rfl, by rw [hU]; exact hP, am.warm hW hM⟩⟩
theorem rd_V {C : String} {b : Nat} {ci : Nat} {q : vw_C} {fs : List Value} (hM : am D cI cL s) (hP : va_P D vwCl ws H) (hc : vwCl[ci]? = some q) (he : ws[0]? = some (b, .inr (ci, fs))) (hq : q.1 = C) : PreV s H C b (rd_P D cI cL ws (.ref b :: av)) av :=
  ⟨rd_bl, by subst hq; exact va_recv hM.1 hP hc he, fun U hU hW => ⟨rfl, by rw [hU]; exact hP, am.warm hW hM⟩⟩
theorem st_S : PreS s H (st_P av) av := ⟨fun _ _ _ _ q => q, fun _ _ _ => ⟨rfl, trivial⟩⟩
theorem wr_bl {sz : Nat} : FrameBlind (wr_P D cI cL ws sz av) := fun a U g mk q => ⟨q.1, q.2.1, q.2.2.1, am.same (u := U) (U := U.calling g mk a) rfl q.2.2.2.1, q.2.2.2.2⟩
theorem wr_S {A : Nat → Prop} (hM : am D cI cL s) (hP : va_P D vwCl ws H) (hD : va_D A ws) : PreS s H (wr_P D cI cL ws H.size av) av := ⟨wr_bl, fun U hU hW => ⟨rfl, by rw [hU], by rw [hU]; exact hP, am.warm hW hM, hD.weaken (fun _ _ _ _ => trivial)⟩⟩
theorem wr_V {A : Nat → Prop} {C : String} {b : Nat} {ci : Nat} {q : vw_C} {fs : List Value} (hM : am D cI cL s) (hP : va_P D vwCl ws H) (hD : va_D A ws) (hc : vwCl[ci]? = some q) (he : ws[0]? = some (b, .inr (ci, fs))) (hq : q.1 = C) : PreV s H C b (wr_P D cI cL ws H.size (.ref b :: av)) av :=
  ⟨wr_bl, by subst hq; exact va_recv hM.1 hP hc he, fun U hU hW => ⟨rfl, by rw [hU], by rw [hU]; exact hP, am.warm hW hM, hD.weaken (fun _ _ _ _ => trivial)⟩⟩
/-- a writer's call: its cells change, the rest stays -/
theorem wr_join {H1 : Heap} {t : State} (hP : va_P D vwCl ws H) (hD : va_D A0 ws) (hS : va_S A0 H0 H locs) (hA : ∀ q, H0.size ≤ q → A0 q) (isC isR : List Nat) (hC : isC.map (fun i => ws[i]?) = wc.map some) (hR : isR.map (fun i => ws[i]?) = wr.map some) (hn : va_nd isR = true) (hdis : ∀ i ∈ isR, i ∉ isC)
    (ht : t.heap = H1) (hk : ∀ q : Nat, q < H.size → ¬ va_A wc H.size q → H1[q]? = H[q]?) (hB : wr_B D (va_A wc H.size) w1 () t) : va_P D vwCl (wr ++ w1) H1 ∧ va_D A0 (wr ++ w1) := by
  obtain ⟨hP1, hD1⟩ := hB
  rw [ht] at hP1
  exact va_join hP hD isC isR hC hR hn hdis hk (va_free hD hS hA isC hC) hP1 hD1
variable {pc mc ms : Nat} {ls : Array Slot} {rest st0 : List Value} {a : Array Value}
theorem wr_cv (hP : va_P D vwCl ws H) (hD : va_D A0 ws) (hS : va_S A0 H0 H locs) (hA : ∀ q, H0.size ≤ q → A0 q) (isC isR : List Nat) (hC : isC.map (fun i => ws[i]?) = wc.map some) (hR : isR.map (fun i => ws[i]?) = wr.map some) (hn : va_nd isR = true) (hdis : ∀ i ∈ isR, i ∉ isC)
    (hr : va_Run p l e R s m args below meth c H locs cells slots mc ms (F0 m pc ls st0) rest (wr_v D (va_A wc H.size) w1 a) (va_A wc H.size))
    (kk : ∀ (H1 : Heap) (locs1 : List Loc), va_P D vwCl (wr ++ w1) H1 → va_D A0 (wr ++ w1) → va_S A0 H0 H1 locs1 → W p l e R s m args below meth c H1 locs1 (cells + mc) (slots + ms) Q (F0 m (pc + 3) ls rest)) : W p l e R s m args below meth c H locs cells slots Q (F0 m pc ls st0) := by
  have hF := va_free hD hS hA isC hC
  refine va_callv hr hS (fun q _ h => hF q h) hF (fun u t H1 locs1 ht hvm hw hB hz1 hk1 hS1 => ?_)
  obtain ⟨hP1, hD1⟩ := wr_join hP hD hS hA isC isR hC hR hn hdis ht hk1 hB
  exact kk H1 locs1 hP1 hD1 hS1
theorem wr_ci {v : Int32} (hP : va_P D vwCl ws H) (hD : va_D A0 ws) (hS : va_S A0 H0 H locs) (hA : ∀ q, H0.size ≤ q → A0 q) (isC isR : List Nat) (hC : isC.map (fun i => ws[i]?) = wc.map some) (hR : isR.map (fun i => ws[i]?) = wr.map some) (hn : va_nd isR = true) (hdis : ∀ i ∈ isR, i ∉ isC)
    (hr : va_Run p l e R s m args below meth c H locs cells slots mc ms (F0 m pc ls st0) rest (wr_i v D (va_A wc H.size) w1 a) (va_A wc H.size))
    (kk : ∀ (H1 : Heap) (locs1 : List Loc), va_P D vwCl (wr ++ w1) H1 → va_D A0 (wr ++ w1) → va_S A0 H0 H1 locs1 → W p l e R s m args below meth c H1 locs1 (cells + mc) (slots + ms) Q (F0 m (pc + 3) ls (.int v :: rest))) : W p l e R s m args below meth c H locs cells slots Q (F0 m pc ls st0) := by
  have hF := va_free hD hS hA isC hC
  refine va_calli hr hS (fun q _ h => hF q h) hF (fun r u t H1 locs1 ht hvm hw hB hz1 hk1 hS1 => ?_)
  obtain ⟨hP1, hD1⟩ := wr_join hP hD hS hA isC isR hC hR hn hdis ht hk1 hB
  subst hw
  exact kk H1 locs1 hP1 hD1 hS1
theorem wr_cl {v : Int64} (hP : va_P D vwCl ws H) (hD : va_D A0 ws) (hS : va_S A0 H0 H locs) (hA : ∀ q, H0.size ≤ q → A0 q) (isC isR : List Nat) (hC : isC.map (fun i => ws[i]?) = wc.map some) (hR : isR.map (fun i => ws[i]?) = wr.map some) (hn : va_nd isR = true) (hdis : ∀ i ∈ isR, i ∉ isC)
    (hr : va_Run p l e R s m args below meth c H locs cells slots mc ms (F0 m pc ls st0) rest (wr_l v D (va_A wc H.size) w1 a) (va_A wc H.size))
    (kk : ∀ (H1 : Heap) (locs1 : List Loc), va_P D vwCl (wr ++ w1) H1 → va_D A0 (wr ++ w1) → va_S A0 H0 H1 locs1 → W p l e R s m args below meth c H1 locs1 (cells + mc) (slots + ms) Q (F0 m (pc + 3) ls (.long v :: rest))) : W p l e R s m args below meth c H locs cells slots Q (F0 m pc ls st0) := by
  have hF := va_free hD hS hA isC hC
  refine va_calll hr hS (fun q _ h => hF q h) hF (fun r u t H1 locs1 ht hvm hw hB hz1 hk1 hS1 => ?_)
  obtain ⟨hP1, hD1⟩ := wr_join hP hD hS hA isC isR hC hR hn hdis ht hk1 hB
  subst hw
  exact kk H1 locs1 hP1 hD1 hS1
/-- a reader's call, whose answer is nothing -/
theorem rd_cv (hr : va_Run p l e R s m args below meth c H locs cells slots 0 0 (F0 m pc ls st0) rest (va_Sv (fun _ => True) a) (fun _ => False)) (kk : W p l e R s m args below meth c H locs cells slots Q (F0 m (pc + 3) ls rest)) : W p l e R s m args below meth c H locs cells slots Q (F0 m pc ls st0) := by
  intro T hT X
  obtain ⟨v, st₀, t, T', L, h0, X', hL, e1, e2, ⟨hv, -, hh⟩, st⟩ := hr T hT X
  cases hv
  obtain ⟨t2, a1, b1⟩ := kk T' (by rw [e1, hh, h0]) (Stand.forget X' (fun q h => (hL q h).elim))
  exact ⟨t2, st t2 a1, b1⟩
/-- a reader's call, whose answer is r -/
theorem rd_c {r : Value} (hr : va_Run p l e R s m args below meth c H locs cells slots 0 0 (F0 m pc ls st0) rest (k2_QcV r a) (fun _ => False)) (kk : W p l e R s m args below meth c H locs cells slots Q (F0 m (pc + 3) ls (r :: rest))) : W p l e R s m args below meth c H locs cells slots Q (F0 m pc ls st0) := by
  intro T hT X
  obtain ⟨v, st₀, t, T', L, h0, X', hL, e1, e2, ⟨hv, hh⟩, st⟩ := hr T hT X
  cases hv
  obtain ⟨t2, a1, b1⟩ := kk T' (by rw [e1, hh, h0]) (Stand.forget X' (fun q h => (hL q h).elim))
  exact ⟨t2, st t2 a1, b1⟩
end HLP
section TP
variable {p : Program} {l : Launch} {e : Env} {R : Room} {s : State} {m : MethodId} {args : Array Value} {below : List Frame} {meth : Method} {c : Code} {H : Heap} {locs : List Loc} {cells slots : Nat} {Q : State → Prop} {pc : Nat} {ls : Array Slot} {rest : List Value}
theorem tp_i {x : Int32} (y : Int32) (h : x = y) (k : W p l e R s m args below meth c H locs cells slots Q (F0 m pc ls (.int y :: rest))) : W p l e R s m args below meth c H locs cells slots Q (F0 m pc ls (.int x :: rest)) := h ▸ k
theorem tp_l {x : Int64} (y : Int64) (h : x = y) (k : W p l e R s m args below meth c H locs cells slots Q (F0 m pc ls (.long y :: rest))) : W p l e R s m args below meth c H locs cells slots Q (F0 m pc ls (.long x :: rest)) := h ▸ k
end TP
/-! numbers -/
theorem nu_cl (x : Int32) : ((x.toNatClampNeg : Nat) : Int) = if 0 ≤ x.toInt then x.toInt else 0 := by
  show ((x.toInt.toNat : Nat) : Int) = _
  split <;> omega
theorem nu_lt31 (x : Int32) : x.toNatClampNeg < 2147483648 := by
  have h := nu_cl x
  have h2 := Int32.toInt_lt x
  split at h <;> omega
/-- a counter against a bound -/
theorem nu_end {x : Int32} {i : Nat} (hi : i < 2147483648) (h : x ≤ nI i) : x.toNatClampNeg ≤ i := by
  have e := nu_cl x
  rw [Int32.le_iff_toInt_le, nI_toInt hi] at h
  split at e <;> omega
theorem nu_on {x : Int32} {i : Nat} (hi : i < 2147483648) (h : ¬ x ≤ nI i) : i < x.toNatClampNeg := by
  have e := nu_cl x
  rw [Int32.le_iff_toInt_le, nI_toInt hi] at h
  split at e <;> omega
theorem in_ge {x N : Int32} {n : Nat} (h1 : ¬ x < 0) (h2 : ¬ N ≤ x) (hN : N.toInt = n) : vp_in x n := by
  rw [vp_in_iff]
  rw [Int32.lt_iff_toInt_lt] at h1
  rw [Int32.le_iff_toInt_le] at h2
  have : (0 : Int32).toInt = 0 := rfl
  omega

/-! words -/
theorem gd_of {w : Cond} (h : w ∈ tb) : (w.onTables && w.keeps) = true ∨ ∃ ty, w = .arrayClass ty := good_of_word (tb_good w h)
section GI
variable {c0 : Cond} {own C : String} {idx maxL : Nat} {y : MethodName} {b : ByteArray} {ret : Option FieldType}
theorem gi_0 (h : Cond.code y b maxL ret ∈ tb) : GoodIn (c0 :: tb) (Cond.code y b maxL ret :: tb) := fun w hw => by
  rcases List.mem_cons.mp hw with rfl | hw
  · exact ⟨List.mem_cons_of_mem _ h, gd_of h⟩
  · exact ⟨List.mem_cons_of_mem _ hw, gd_of hw⟩
theorem gi_V (h : Cond.code y b maxL ret ∈ tb) (h1 : Cond.methodLink own idx y ∈ tb) (h2 : Cond.instanceMethod y ∈ tb) (h3 : Cond.selects C y y ∈ tb) (h4 : Cond.initialized C ∈ tb) : GoodIn (c0 :: tb) (wsV own idx C y (Cond.code y b maxL ret :: tb)) := fun w hw => by
  unfold wsV at hw
  rcases List.mem_append.mp hw with hw | hw
  · simp only [List.mem_cons, List.not_mem_nil, or_false] at hw
    rcases hw with rfl | rfl | rfl | rfl
    · exact ⟨List.mem_cons_of_mem _ h1, gd_of h1⟩
    · exact ⟨List.mem_cons_of_mem _ h2, gd_of h2⟩
    · exact ⟨List.mem_cons_of_mem _ h3, gd_of h3⟩
    · exact ⟨List.mem_cons_of_mem _ h4, gd_of h4⟩
  · exact gi_0 h w hw
theorem gi_S (h : Cond.code y b maxL ret ∈ tb) (h1 : Cond.methodLink own idx y ∈ tb) (h2 : Cond.static y ∈ tb) (h4 : Cond.initialized own ∈ tb) : GoodIn (c0 :: tb) (wsS own idx y (Cond.code y b maxL ret :: tb)) := fun w hw => by
  unfold wsS at hw
  rcases List.mem_append.mp hw with hw | hw
  · simp only [List.mem_cons, List.not_mem_nil, or_false] at hw
    rcases hw with rfl | rfl | rfl
    · exact ⟨List.mem_cons_of_mem _ h1, gd_of h1⟩
    · exact ⟨List.mem_cons_of_mem _ h2, gd_of h2⟩
    · exact ⟨List.mem_cons_of_mem _ h4, gd_of h4⟩
  · exact gi_0 h w hw
theorem ht_ {args : Array Value} {s : State} {w : Cond} (hts : ∀ w ∈ c0 :: tb, w.before args s = true) (h : w ∈ tb) : w.before args s = true := hts w (List.mem_cons_of_mem _ h)
theorem hi_ {ws : List Cond} (h : ∀ w ∈ ws, w ∈ tb) : ∀ w ∈ ws, w ∈ c0 :: tb := fun w hw => List.mem_cons_of_mem _ (h w hw)
end GI
