/-! THROWS: methods that throw a new IllegalArgumentException and change nothing that was there -/
abbrev IAE : String := "java/lang/IllegalArgumentException"
def up9 : List String := ["java/lang/RuntimeException", "java/lang/Exception"]
theorem up_fit : ∀ n ∈ up9, Bundle.fit n = true := by decide +kernel
theorem atS_in : ∀ w ∈ (vx_atS "RoomEchoes" 140 IAE up9).filter goodWord, w ∈ tb := by decide +kernel
abbrev dcl (C : String) : Cond := .declares ⟨C, "<init>", "(Ljava/lang/String;)V"⟩
theorem atS_no : ∀ w ∈ (vx_atS "RoomEchoes" 140 IAE up9).filter (fun w => !goodWord w), w ∈ [Cond.castable IAE IAE, dcl "java/lang/RuntimeException", dcl "java/lang/Exception", dcl "java/lang/Throwable"] := by decide +kernel
def nws (U : State) : Prop := va_Nw (.castable IAE IAE) U ∧ va_Nw (dcl "java/lang/RuntimeException") U ∧ va_Nw (dcl "java/lang/Exception") U ∧ va_Nw (dcl "java/lang/Throwable") U
theorem nws.warm {s U : State} (hW : s.WarmedH U.vm) (h : nws s) : nws U := ⟨va_Nw.warmC hW h.1, va_Nw.warmD hW h.2.1, va_Nw.warmD hW h.2.2.1, va_Nw.warmD hW h.2.2.2⟩
theorem nws.same {u U : State} (hv : u.vm = U.vm) (h : nws u) : nws U := ⟨va_Nw.same rfl hv h.1, va_Nw.same rfl hv h.2.1, va_Nw.same rfl hv h.2.2.1, va_Nw.same rfl hv h.2.2.2⟩
theorem atS_ok : ∀ w ∈ Cond.classLink "RoomEchoes" 136 IAE :: Cond.initialized IAE :: vx_atS "RoomEchoes" 140 IAE up9, vx_ot w = true := by decide +kernel
/-- what a throw needs of the heap H: two static fields, two texts -/
def ts (A : Nat → Prop) (sa1 sa2 : Nat) (U : State) (H : Heap) : Prop := vx_Zq Bundle.tN "UNASSIGNED_STACK" Bundle.steD A U H ∧ vx_Zq Bundle.tN "SUPPRESSED_SENTINEL" Bundle.listD A U H ∧ vk_R "RoomEchoes" 138 "a number is out of its bounds" sa1 U ∧ vk_R "RoomEchoes" 143 "a distance is below 0" sa2 U ∧ nws U
theorem ts.warm {A : Nat → Prop} {sa1 sa2 : Nat} {s U : State} {H : Heap} (hW : s.WarmedH U.vm) (h : ts A sa1 sa2 s H) : ts A sa1 sa2 U H := ⟨vx_Zq.moved hW.alike h.1, vx_Zq.moved hW.alike h.2.1, vk_R.warm hW h.2.2.1, vk_R.warm hW h.2.2.2.1, nws.warm hW h.2.2.2.2⟩
theorem ts.same {A : Nat → Prop} {sa1 sa2 : Nat} {u U : State} {H : Heap} (hv : u.vm = U.vm) (h : ts A sa1 sa2 u H) : ts A sa1 sa2 U H := ⟨vx_Zq.moved (by rw [hv]; exact Vm.Alike.refl _) h.1, vx_Zq.moved (by rw [hv]; exact Vm.Alike.refl _) h.2.1, vk_R.same hv.symm h.2.2.1, vk_R.same hv.symm h.2.2.2.1, nws.same hv h.2.2.2.2⟩
theorem ts.kept {A : Nat → Prop} {sa1 sa2 : Nat} {U : State} {H H1 : Heap} (h : ts A sa1 sa2 U H) (hq : ∀ a : Nat, a < H.size → ¬ A a → H1[a]? = H[a]?) : ts A sa1 sa2 U H1 := ⟨h.1.kept hq, h.2.1.kept hq, h.2.2⟩
theorem ts.none {A : Nat → Prop} {sa1 sa2 : Nat} {U : State} {H : Heap} (h : ts A sa1 sa2 U H) : ts (fun _ => False) sa1 sa2 U H := ⟨h.1.narrow (fun _ q => q.elim), h.2.1.narrow (fun _ q => q.elim), h.2.2⟩
abbrev tx_P (D : va_G) (cI cL : ClassId) (ws : va_W) (sa1 sa2 : Nat) (av : List Value) : Array Value → State → Prop := va_Pc av (fun U => va_P D vwCl ws U.heap ∧ am D cI cL U ∧ ts (fun _ => False) sa1 sa2 U U.heap)
abbrev tx_Q : Array Value → State → Outcome → State → Prop := va_Qv (fun _ : Unit => False) (fun _ _ => True) (fun _ => False)
abbrev tx_X : String → State → State → Prop := vx_X (fun _ : Unit => True) (fun E _ _ => E = IAE) (fun _ => False)
abbrev TX (l : Launch) (y : MethodName) (ws : List Cond) (rm : Room) (Pc : Array Value → State → Prop) : Prop := vx_Met l y ws rm Pc tx_Q tx_X 1 6 (fun _ => False)
section TXS
variable {p : Program} {l : Launch} {e : Env} {R : Room} {s : State} {m : MethodId} {args : Array Value} {below : List Frame} {meth : Method} {c : Code} {H H0 : Heap} {locs : List Loc} {cells slots : Nat} {Q : State → Prop}
variable {D : va_G} {cI cL : ClassId} {ws : va_W} {av : List Value} {sa1 sa2 : Nat} {pc : Nat} {ls : Array Slot} {rest st0 : List Value} {a : Array Value}
theorem tx_bl : FrameBlind (tx_P D cI cL ws sa1 sa2 av) := fun a U g mk q => ⟨q.1, q.2.1, am.same (u := U) (U := U.calling g mk a) rfl q.2.2.1, ts.same (u := U) (U := U.calling g mk a) rfl q.2.2.2⟩
theorem tx_S (hM : am D cI cL s) (hP : va_P D vwCl ws H) (hT : ts (fun _ => False) sa1 sa2 s H) : PreS s H (tx_P D cI cL ws sa1 sa2 av) av := ⟨tx_bl, fun U hU hW => ⟨rfl, by rw [hU]; exact hP, am.warm hW hM, by rw [hU]; exact ts.warm hW hT⟩⟩
theorem tx_V {C : String} {b : Nat} {ci : Nat} {q : vw_C} {fs : List Value} (hM : am D cI cL s) (hP : va_P D vwCl ws H) (hT : ts (fun _ => False) sa1 sa2 s H) (hc : vwCl[ci]? = some q) (he : ws[0]? = some (b, .inr (ci, fs))) (hq : q.1 = C) : PreV s H C b (tx_P D cI cL ws sa1 sa2 (.ref b :: av)) av :=
  ⟨tx_bl, by subst hq; exact va_recv hM.1 hP hc he, fun U hU hW => ⟨rfl, by rw [hU]; exact hP, am.warm hW hM, by rw [hU]; exact ts.warm hW hT⟩⟩
theorem tx_out (hr : vx_Run p l e R s m args below meth c s.heap [] 0 0 1 6 (F0 m pc ls st0) rest (tx_Q a) tx_X (fun _ => False)) (hout : ∀ x ∈ c.exceptionTable.toList, False) (hlocks : meth.locks = false) : W p l e R s m args below meth c s.heap [] 0 0 (vx_MQ below tx_Q tx_X args s 1 6 (fun _ => False)) (F0 m pc ls st0) := by
  refine vx_callv (A0 := fun _ => False) (H0 := s.heap) hr va_S.rf (fun q _ h => h) (fun q h => h) (fun q _ h => h) (fun E ce q9 u t H1 locs1 ht hv hp hB hz hk hS hc hvm hcl => ?_) (fun u t H1 locs1 ht hv hp hB hz hk hS => hp.elim)
  exact vx_out (fun x hx => (hout x hx).elim) hlocks hc hvm hcl (fun t2 ht2 ha2 => ⟨(), trivial, hB, by rw [ht2]; exact hz, fun q hq _ => by rw [ht2]; exact hk q hq id⟩) hS.2.2 (Nat.le_refl _) (Nat.le_refl _)
theorem tx_at {A : Nat → Prop} {c0 : Cond} (hts : ∀ w ∈ c0 :: tb, w.before args s = true) (hT : ts A sa1 sa2 s H) : ∀ w ∈ vx_atS "RoomEchoes" 140 IAE up9, w.before args s = true :=
  vx_hat (fun w hw => hts w (List.mem_cons_of_mem _ (atS_in w hw))) atS_no (vx_c (va_Nw.use rfl hT.2.2.2.2.1) (vx_c (va_Nw.use rfl hT.2.2.2.2.2.1) (vx_c (va_Nw.use rfl hT.2.2.2.2.2.2.1) (vx_c (va_Nw.use rfl hT.2.2.2.2.2.2.2) vx_n))))
end TXS
