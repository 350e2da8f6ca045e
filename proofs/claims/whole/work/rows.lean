section
-- ===== PART A: goes FIRST, ahead of the names: the tables' words, and 'selects' of the private methods out of them =====
/-- a private method of a class that the tables say can be made, by its rows of tables_1 -/
def lw_okq (q : MethodName × Nat) : Prop := (q.1.cls ≠ "java/lang/invoke/MethodHandle" ∧ q.1.cls ≠ "java/lang/invoke/VarHandle") ∧ Cond.instantiable q.1.cls q.2 ∈ tables_1 ∧ Cond.privateMethod q.1 ∈ tables_1 ∧ Cond.instanceMethod q.1 ∈ tables_1
theorem lw_p0 : lw_okq (⟨"RoomEchoes", "requirePoint", "(III)V"⟩, 9) := ⟨⟨by decide +kernel, by decide +kernel⟩, List.mem_of_getElem? (i := 11) (by decide +kernel), List.mem_of_getElem? (i := 107) (by decide +kernel), List.mem_of_getElem? (i := 108) (by decide +kernel)⟩
theorem lw_p1 : lw_okq (⟨"java/lang/Throwable", "fillInStackTrace", "(I)Ljava/lang/Throwable;"⟩, 6) := ⟨⟨by decide +kernel, by decide +kernel⟩, List.mem_of_getElem? (i := 150) (by decide +kernel), List.mem_of_getElem? (i := 148) (by decide +kernel), List.mem_of_getElem? (i := 149) (by decide +kernel)⟩
theorem lw_p2 : lw_okq (⟨"RoomEchoes", "forgetOrder", "()V"⟩, 9) := ⟨⟨by decide +kernel, by decide +kernel⟩, List.mem_of_getElem? (i := 11) (by decide +kernel), List.mem_of_getElem? (i := 180) (by decide +kernel), List.mem_of_getElem? (i := 181) (by decide +kernel)⟩
theorem lw_p3 : lw_okq (⟨"RoomEchoes", "distanceOf", "(III)J"⟩, 9) := ⟨⟨by decide +kernel, by decide +kernel⟩, List.mem_of_getElem? (i := 11) (by decide +kernel), List.mem_of_getElem? (i := 208) (by decide +kernel), List.mem_of_getElem? (i := 209) (by decide +kernel)⟩
theorem lw_p4 : lw_okq (⟨"RoomEchoes$Axis", "imageAt", "(I)I"⟩, 5) := ⟨⟨by decide +kernel, by decide +kernel⟩, List.mem_of_getElem? (i := 34) (by decide +kernel), List.mem_of_getElem? (i := 216) (by decide +kernel), List.mem_of_getElem? (i := 217) (by decide +kernel)⟩
theorem lw_p5 : lw_okq (⟨"RoomEchoes", "strengthOf", "(III)J"⟩, 9) := ⟨⟨by decide +kernel, by decide +kernel⟩, List.mem_of_getElem? (i := 11) (by decide +kernel), List.mem_of_getElem? (i := 220) (by decide +kernel), List.mem_of_getElem? (i := 221) (by decide +kernel)⟩
theorem lw_p6 : lw_okq (⟨"RoomEchoes", "orderEchoes", "()V"⟩, 9) := ⟨⟨by decide +kernel, by decide +kernel⟩, List.mem_of_getElem? (i := 11) (by decide +kernel), List.mem_of_getElem? (i := 254) (by decide +kernel), List.mem_of_getElem? (i := 255) (by decide +kernel)⟩
theorem lw_p7 : lw_okq (⟨"RoomEchoes$Axis", "insert", "(II)V"⟩, 5) := ⟨⟨by decide +kernel, by decide +kernel⟩, List.mem_of_getElem? (i := 34) (by decide +kernel), List.mem_of_getElem? (i := 262) (by decide +kernel), List.mem_of_getElem? (i := 263) (by decide +kernel)⟩
theorem lw_p8 : lw_okq (⟨"RoomEchoes", "addAtRanks", "(III)V"⟩, 9) := ⟨⟨by decide +kernel, by decide +kernel⟩, List.mem_of_getElem? (i := 11) (by decide +kernel), List.mem_of_getElem? (i := 282) (by decide +kernel), List.mem_of_getElem? (i := 283) (by decide +kernel)⟩
theorem lw_p9 : lw_okq (⟨"RoomEchoes$Frontier", "sinkFromTop", "(J)V"⟩, 2) := ⟨⟨by decide +kernel, by decide +kernel⟩, List.mem_of_getElem? (i := 19) (by decide +kernel), List.mem_of_getElem? (i := 303) (by decide +kernel), List.mem_of_getElem? (i := 304) (by decide +kernel)⟩
theorem lw_p10 : lw_okq (⟨"RoomEchoes$Frontier", "lesserOf", "(I)I"⟩, 2) := ⟨⟨by decide +kernel, by decide +kernel⟩, List.mem_of_getElem? (i := 19) (by decide +kernel), List.mem_of_getElem? (i := 307) (by decide +kernel), List.mem_of_getElem? (i := 308) (by decide +kernel)⟩
theorem lw_p11 : lw_okq (⟨"RoomEchoes", "addFollowers", "(J)V"⟩, 9) := ⟨⟨by decide +kernel, by decide +kernel⟩, List.mem_of_getElem? (i := 11) (by decide +kernel), List.mem_of_getElem? (i := 311) (by decide +kernel), List.mem_of_getElem? (i := 312) (by decide +kernel)⟩
theorem lw_p12 : lw_okq (⟨"RoomEchoes", "countWithin", "(J)I"⟩, 9) := ⟨⟨by decide +kernel, by decide +kernel⟩, List.mem_of_getElem? (i := 11) (by decide +kernel), List.mem_of_getElem? (i := 348) (by decide +kernel), List.mem_of_getElem? (i := 349) (by decide +kernel)⟩
theorem lw_p13 : lw_okq (⟨"RoomEchoes", "weighEchoes", "()V"⟩, 9) := ⟨⟨by decide +kernel, by decide +kernel⟩, List.mem_of_getElem? (i := 11) (by decide +kernel), List.mem_of_getElem? (i := 362) (by decide +kernel), List.mem_of_getElem? (i := 363) (by decide +kernel)⟩
theorem lw_p14 : lw_okq (⟨"RoomEchoes", "loudnessBetween", "(II)J"⟩, 9) := ⟨⟨by decide +kernel, by decide +kernel⟩, List.mem_of_getElem? (i := 11) (by decide +kernel), List.mem_of_getElem? (i := 366) (by decide +kernel), List.mem_of_getElem? (i := 367) (by decide +kernel)⟩
theorem lw_p15 : lw_okq (⟨"RoomEchoesModel", "isPoint", "(III)Z"⟩, 12) := ⟨⟨by decide +kernel, by decide +kernel⟩, List.mem_of_getElem? (i := 395) (by decide +kernel), List.mem_of_getElem? (i := 446) (by decide +kernel), List.mem_of_getElem? (i := 447) (by decide +kernel)⟩
def lw_privs_1 : List (MethodName × Nat) := [(⟨"RoomEchoes", "requirePoint", "(III)V"⟩, 9), (⟨"java/lang/Throwable", "fillInStackTrace", "(I)Ljava/lang/Throwable;"⟩, 6), (⟨"RoomEchoes", "forgetOrder", "()V"⟩, 9), (⟨"RoomEchoes", "distanceOf", "(III)J"⟩, 9), (⟨"RoomEchoes$Axis", "imageAt", "(I)I"⟩, 5), (⟨"RoomEchoes", "strengthOf", "(III)J"⟩, 9), (⟨"RoomEchoes", "orderEchoes", "()V"⟩, 9), (⟨"RoomEchoes$Axis", "insert", "(II)V"⟩, 5), (⟨"RoomEchoes", "addAtRanks", "(III)V"⟩, 9), (⟨"RoomEchoes$Frontier", "sinkFromTop", "(J)V"⟩, 2), (⟨"RoomEchoes$Frontier", "lesserOf", "(I)I"⟩, 2), (⟨"RoomEchoes", "addFollowers", "(J)V"⟩, 9), (⟨"RoomEchoes", "countWithin", "(J)I"⟩, 9), (⟨"RoomEchoes", "weighEchoes", "()V"⟩, 9), (⟨"RoomEchoes", "loudnessBetween", "(II)J"⟩, 9), (⟨"RoomEchoesModel", "isPoint", "(III)Z"⟩, 12)]
theorem lw_r1 : ∀ q ∈ lw_privs_1, lw_okq q := List.forall_mem_cons.mpr ⟨lw_p0, List.forall_mem_cons.mpr ⟨lw_p1, List.forall_mem_cons.mpr ⟨lw_p2, List.forall_mem_cons.mpr ⟨lw_p3, List.forall_mem_cons.mpr ⟨lw_p4, List.forall_mem_cons.mpr ⟨lw_p5, List.forall_mem_cons.mpr ⟨lw_p6, List.forall_mem_cons.mpr ⟨lw_p7, List.forall_mem_cons.mpr ⟨lw_p8, List.forall_mem_cons.mpr ⟨lw_p9, List.forall_mem_cons.mpr ⟨lw_p10, List.forall_mem_cons.mpr ⟨lw_p11, List.forall_mem_cons.mpr ⟨lw_p12, List.forall_mem_cons.mpr ⟨lw_p13, List.forall_mem_cons.mpr ⟨lw_p14, List.forall_mem_cons.mpr ⟨lw_p15, fun _ h => absurd h List.not_mem_nil⟩⟩⟩⟩⟩⟩⟩⟩⟩⟩⟩⟩⟩⟩⟩⟩
theorem lw_p16 : lw_okq (⟨"RoomEchoesModel", "told", "(IIII)J"⟩, 12) := ⟨⟨by decide +kernel, by decide +kernel⟩, List.mem_of_getElem? (i := 395) (by decide +kernel), List.mem_of_getElem? (i := 473) (by decide +kernel), List.mem_of_getElem? (i := 474) (by decide +kernel)⟩
theorem lw_p17 : lw_okq (⟨"RoomEchoesModel", "distance", "(III)J"⟩, 12) := ⟨⟨by decide +kernel, by decide +kernel⟩, List.mem_of_getElem? (i := 395) (by decide +kernel), List.mem_of_getElem? (i := 477) (by decide +kernel), List.mem_of_getElem? (i := 478) (by decide +kernel)⟩
theorem lw_p18 : lw_okq (⟨"RoomEchoesModel", "square", "(II)J"⟩, 12) := ⟨⟨by decide +kernel, by decide +kernel⟩, List.mem_of_getElem? (i := 395) (by decide +kernel), List.mem_of_getElem? (i := 481) (by decide +kernel), List.mem_of_getElem? (i := 482) (by decide +kernel)⟩
theorem lw_p19 : lw_okq (⟨"RoomEchoesModel", "strength", "(III)J"⟩, 12) := ⟨⟨by decide +kernel, by decide +kernel⟩, List.mem_of_getElem? (i := 395) (by decide +kernel), List.mem_of_getElem? (i := 485) (by decide +kernel), List.mem_of_getElem? (i := 486) (by decide +kernel)⟩
theorem lw_p20 : lw_okq (⟨"RoomEchoesModel", "kept", "(JII)J"⟩, 12) := ⟨⟨by decide +kernel, by decide +kernel⟩, List.mem_of_getElem? (i := 395) (by decide +kernel), List.mem_of_getElem? (i := 493) (by decide +kernel), List.mem_of_getElem? (i := 494) (by decide +kernel)⟩
theorem lw_p21 : lw_okq (⟨"RoomEchoesModel", "make", "()V"⟩, 12) := ⟨⟨by decide +kernel, by decide +kernel⟩, List.mem_of_getElem? (i := 395) (by decide +kernel), List.mem_of_getElem? (i := 509) (by decide +kernel), List.mem_of_getElem? (i := 510) (by decide +kernel)⟩
theorem lw_p22 : lw_okq (⟨"RoomEchoesModel", "prepare", "()V"⟩, 12) := ⟨⟨by decide +kernel, by decide +kernel⟩, List.mem_of_getElem? (i := 395) (by decide +kernel), List.mem_of_getElem? (i := 513) (by decide +kernel), List.mem_of_getElem? (i := 514) (by decide +kernel)⟩
theorem lw_p23 : lw_okq (⟨"RoomEchoesModel", "isEnough", "(J)Z"⟩, 12) := ⟨⟨by decide +kernel, by decide +kernel⟩, List.mem_of_getElem? (i := 395) (by decide +kernel), List.mem_of_getElem? (i := 519) (by decide +kernel), List.mem_of_getElem? (i := 520) (by decide +kernel)⟩
theorem lw_p24 : lw_okq (⟨"RoomEchoesModel", "collect", "(IJJ)I"⟩, 12) := ⟨⟨by decide +kernel, by decide +kernel⟩, List.mem_of_getElem? (i := 395) (by decide +kernel), List.mem_of_getElem? (i := 523) (by decide +kernel), List.mem_of_getElem? (i := 524) (by decide +kernel)⟩
theorem lw_p25 : lw_okq (⟨"RoomEchoesModel", "put", "(IJIII)V"⟩, 12) := ⟨⟨by decide +kernel, by decide +kernel⟩, List.mem_of_getElem? (i := 395) (by decide +kernel), List.mem_of_getElem? (i := 527) (by decide +kernel), List.mem_of_getElem? (i := 528) (by decide +kernel)⟩
theorem lw_p26 : lw_okq (⟨"RoomEchoesModel", "countUntil", "(J)I"⟩, 12) := ⟨⟨by decide +kernel, by decide +kernel⟩, List.mem_of_getElem? (i := 395) (by decide +kernel), List.mem_of_getElem? (i := 539) (by decide +kernel), List.mem_of_getElem? (i := 540) (by decide +kernel)⟩
theorem lw_p27 : lw_okq (⟨"RoomEchoesModel", "first", "(I)J"⟩, 12) := ⟨⟨by decide +kernel, by decide +kernel⟩, List.mem_of_getElem? (i := 395) (by decide +kernel), List.mem_of_getElem? (i := 547) (by decide +kernel), List.mem_of_getElem? (i := 548) (by decide +kernel)⟩
theorem lw_p28 : lw_okq (⟨"RoomEchoesModel", "loudness", "(I)J"⟩, 12) := ⟨⟨by decide +kernel, by decide +kernel⟩, List.mem_of_getElem? (i := 395) (by decide +kernel), List.mem_of_getElem? (i := 551) (by decide +kernel), List.mem_of_getElem? (i := 552) (by decide +kernel)⟩
def lw_privs_2 : List (MethodName × Nat) := [(⟨"RoomEchoesModel", "told", "(IIII)J"⟩, 12), (⟨"RoomEchoesModel", "distance", "(III)J"⟩, 12), (⟨"RoomEchoesModel", "square", "(II)J"⟩, 12), (⟨"RoomEchoesModel", "strength", "(III)J"⟩, 12), (⟨"RoomEchoesModel", "kept", "(JII)J"⟩, 12), (⟨"RoomEchoesModel", "make", "()V"⟩, 12), (⟨"RoomEchoesModel", "prepare", "()V"⟩, 12), (⟨"RoomEchoesModel", "isEnough", "(J)Z"⟩, 12), (⟨"RoomEchoesModel", "collect", "(IJJ)I"⟩, 12), (⟨"RoomEchoesModel", "put", "(IJIII)V"⟩, 12), (⟨"RoomEchoesModel", "countUntil", "(J)I"⟩, 12), (⟨"RoomEchoesModel", "first", "(I)J"⟩, 12), (⟨"RoomEchoesModel", "loudness", "(I)J"⟩, 12)]
theorem lw_r2 : ∀ q ∈ lw_privs_2, lw_okq q := List.forall_mem_cons.mpr ⟨lw_p16, List.forall_mem_cons.mpr ⟨lw_p17, List.forall_mem_cons.mpr ⟨lw_p18, List.forall_mem_cons.mpr ⟨lw_p19, List.forall_mem_cons.mpr ⟨lw_p20, List.forall_mem_cons.mpr ⟨lw_p21, List.forall_mem_cons.mpr ⟨lw_p22, List.forall_mem_cons.mpr ⟨lw_p23, List.forall_mem_cons.mpr ⟨lw_p24, List.forall_mem_cons.mpr ⟨lw_p25, List.forall_mem_cons.mpr ⟨lw_p26, List.forall_mem_cons.mpr ⟨lw_p27, List.forall_mem_cons.mpr ⟨lw_p28, fun _ h => absurd h List.not_mem_nil⟩⟩⟩⟩⟩⟩⟩⟩⟩⟩⟩⟩⟩
def lw_privs : List (MethodName × Nat) := lw_privs_1 ++ (lw_privs_2)
def lw_tbl : List Cond := k2_sels lw_privs ++ tables_1
theorem lw_privs_ok : ∀ q ∈ lw_privs, lw_okq q := by
  show ∀ q ∈ lw_privs_1 ++ (lw_privs_2), lw_okq q
  exact List.forall_mem_append.mpr ⟨lw_r1, lw_r2⟩
end
section
/-! ===== BEGIN words of one list among another's, by their places ===== -/
theorem goodIn_r {big : List Cond} (ws : List Cond) (ps : List Nat) (hp : ws = ps.filterMap (fun i => big[i]?)) (h : ws.all goodWord = true) : GoodIn big ws := by
  intro w hw
  have h1 := List.all_eq_true.mp h w hw
  rw [hp] at hw
  obtain ⟨i, -, hi⟩ := List.mem_filterMap.mp hw
  have hm : w ∈ big := by first | exact List.mem_of_getElem? hi | exact List.getElem?_mem hi
  exact ⟨hm, good_of_word h1⟩
theorem goodIn_app {big a b : List Cond} (ha : GoodIn big a) (hb : GoodIn big b) : GoodIn big (a ++ b) := fun w h => (List.mem_append.mp h).elim (ha w) (hb w)
theorem goodIn_ca {big a b : List Cond} {c : Cond} (ha : GoodIn big (c :: a)) (hb : GoodIn big b) : GoodIn big (c :: (a ++ b)) := fun w h => (List.mem_cons.mp h).elim (fun e => ha w (List.mem_cons.mpr (Or.inl e))) (fun h => (List.mem_append.mp h).elim (fun h => ha w (List.mem_cons.mpr (Or.inr h))) (hb w))
theorem goodIn_sub {big ws : List Cond} (hm : ∀ w ∈ ws, w ∈ big) (h : ws.all goodWord = true) : GoodIn big ws := fun w hw => ⟨hm w hw, good_of_word (List.all_eq_true.mp h w hw)⟩
/-! ===== END ===== -/

/-! ===== BEGIN exceptions that leave a method, and their catching by the caller (launches without stack traces) ===== -/
section VXA
/-! The laws vx_back, vx_callV, vx_callS, vx_callSW, vx_throw0, vx_throwS follow proofs of the library, with one case more: JvmDerived/Free/Laws.lean (Back.of_free), Shelf42/LK1.lean (callV, callS), Shelf/KitTraced.lean (throwNew0V, throwNewS). -/

/-- where a method has thrown q: the class by its name, the cell, what was written, the world -/
def vx_T (XC : String → State → State → Prop) (st : State) (q : Addr) (t : State) (mc ms : Nat) (free : Addr → Prop) : Prop :=
  ∃ (E : String) (ce : Cell) (L : List Loc), XC E st t ∧ t.heap[q]? = some ce ∧ ce.vm = .none ∧ st.vm.findClass E = some ce.cls ∧ st.WarmedH t.vm ∧ st.sameButNew ({ t with vm := st.vm } : State) L mc ms ∧ ∀ z ∈ L, free z.base
def vx_Q (Qc : Array Value → State → Outcome → State → Prop) (XC : String → State → State → Prop) (mc ms : Nat) (free : Addr → Prop) : Array Value → State → Outcome → State → Prop := fun a st o t =>
  (Qc a st o t ∧ ∃ L, FrameEnd st o t L mc ms ∧ ∀ q ∈ L, free q.base) ∨ ∃ q, o = .threw q ∧ vx_T XC st q t mc ms free
/-- a callee that returns or throws -/
def vx_Met (l : Launch) (y : MethodName) (ws : List Cond) (rm : Room) (Pc : Array Value → State → Prop) (Qc : Array Value → State → Outcome → State → Prop) (XC : String → State → State → Prop) (mc ms : Nat) (free : Addr → Prop) : Prop :=
  MetFree l y (headSpec ws rm) Pc (fun _ _ _ _ _ => True) (vx_Q Qc XC mc ms free)
def vx_Post (XC : String → State → State → Prop) (mc ms : Nat) (free : Addr → Prop) : Pt → Array Value → Addr → Pt → Prop := fun A a q B =>
  ∃ (g : JFrame) (mk : MethodId) (t : State) (L : List Loc) (E : String) (ce : Cell), B.U.heap = t.heap ∧ B.U.vm = t.vm ∧ XC E (A.U.calling g mk a) t ∧ t.heap[q]? = some ce ∧ ce.vm = .none ∧ A.U.vm.findClass E = some ce.cls ∧ B.locs = A.locs ++ L ∧ (∀ z ∈ L, free z.base) ∧ B.cells = A.cells + mc ∧ B.slots = A.slots + ms
def vx_Back (l : Launch) (R : Room) (p : Program) (e : Env) (below : List Frame) (s : State) (sargs : Array Value) (y : MethodName) (len W9 : Nat)
    (Pre : Pt → Array Value → Prop) (Post : Pt → Array Value → Option Value → Pt → Prop) (PostX : Pt → Array Value → Addr → Pt → Prop) : Prop :=
  ∀ (m : MethodId) (meth : Method) (c : Code) (A : Pt) (g : JFrame) (ig : Instr) (mk : MethodId) (a : Array Value),
    Stand p l e R s m sargs below meth c A.U A.locs A.cells A.slots → g.method = m → g.locals.size = c.maxLocals → decode c.code g.pc = .ok (ig, len) →
    2 * g.monitorRoom + (g.stack.map fun v => v.category).sum ≤ W9 → A.U.methodNamed? y = some mk → Pre A a →
    (∃ (v : Option Value) (B : Pt), Stand p l e R s m sargs below meth c B.U B.locs B.cells B.slots ∧ Post A a v B ∧
      Steps p.tables e below (doInvoke e (A.U.setTop g) [] mk a).1 (B.U.setTop { g with pc := g.pc + len, stack := v.toList ++ g.stack })) ∨
    (∃ (q : Addr) (B : Pt), Stand p l e R s m sargs below meth c B.U B.locs B.cells B.slots ∧ PostX A a q B ∧
      Steps p.tables e below (doInvoke e (A.U.setTop g) [] mk a).1 ((B.U.setTop g).pushFrame (.throwing q)))
section Payer
variable {l : Launch} {R : Room} {p : Program} {e : Env} {below : List Frame} {s : State} {sargs : Array Value} {y : MethodName} {len W9 : Nat}
theorem vx_back {ws : List Cond} {rm : Room} {Pc : Array Value → State → Prop} {Qc : Array Value → State → Outcome → State → Prop} {XC : String → State → State → Prop} {mc ms : Nat} {free : Addr → Prop} {bytes : ByteArray} {maxL : Nat} {ret : Option FieldType}
    (hM : vx_Met l y ws rm Pc Qc XC mc ms free) (hblind : FrameBlind Pc) (hrc : rm.cells = mc) (hrs : rm.slots = ms)
    (hframes : rm.frames + 1 ≤ R.frames) (hlocals : W9 + (maxL + 11) + rm.locals ≤ R.locals)
    (hws : ∀ w ∈ ws, ∀ a' U, s.WarmedH U.vm → w.before a' U = true) (hcode : Cond.code y bytes maxL ret ∈ ws) (hinit : ∀ a' U, s.WarmedH U.vm → (Cond.initialized y.cls).before a' U = true) :
    vx_Back l R p e below s sargs y len W9 (PreOf R mc ms Pc) (PostOf Qc mc ms free) (vx_Post XC mc ms free) := by
  intro m meth c A g ig mk a X hg hsize hdg hW hn hp
  have h1 : (headSpec ws rm).pre.before a A.U = true := atoms_intro fun w hw => hws w hw _ _ X.warmed
  have h2 : (Cond.code y bytes maxL ret).before a A.U = true := hws _ hcode _ _ X.warmed
  have h3 : (Cond.initialized y.cls).before a A.U = true := hinit _ _ X.warmed
  have h4 : A.cells + (headSpec ws rm).room.cells ≤ R.cells := by rw [show (headSpec ws rm).room.cells = mc from hrc]; exact hp.1
  have h5 : A.slots + (headSpec ws rm).room.slots ≤ R.slots := by rw [show (headSpec ws rm).room.slots = ms from hrs]; exact hp.2.1
  have hPc : Pc a (A.U.calling g mk a) := hblind _ _ _ _ hp.2.2
  obtain ⟨U, Ls, c0, s0⟩ := A
  dsimp only [Pt.U, Pt.locs, Pt.cells, Pt.slots] at h1 h2 h3 h4 h5 X hn hPc ⊢
  obtain ⟨methY, cY, hmY, hcY, -, hlY, -, -, -, -⟩ := Cond.code_spec hn h2
  obtain ⟨kY, hkY, -⟩ := className_of_methodNamed hn
  have hinitY : kY.init = .initialized := Cond.initialized_spec (findClass_of_methodNamed hn) hkY h3
  have h : At U g.method c below := by rw [hg]; exact X.here
  have hlocals9 : W9 + (maxL + 11) + (headSpec ws rm).room.locals ≤ R.locals := hlocals
  have happ : (headSpec ws rm).appliesLoose y e.platform (U.calling g mk a) = true :=
    Spec.appliesLoose_calling (g := g) h hdg hn hkY hinitY
      (X.room_calling (g := g) (R' := (headSpec ws rm).room) hsize hmY hcY hframes (by rw [hlY]; omega) h4 h5) h1
  obtain ⟨mid, hmid⟩ := h.above
  have hfr : (U.setTop g).frames = (.java g :: mid) ++ below := by rw [State.frames_setTop' g h.top, hmid]; rfl
  obtain ⟨o, s₂, hsteps, -, hend, hq⟩ := Steps.callFree hM p X.admits X.cas X.clock (acts := []) hfr happ hPc trivial
  have hq' : vx_Q Qc XC mc ms free a (U.calling g mk a) o s₂ := hq
  rw [State.frames_setTop' g h.top] at hend
  obtain ⟨g₀, hg0⟩ := Option.isSome_iff_exists.mp h.top
  obtain ⟨r, hr⟩ := State.topJava?_eq_some.mp hg0
  have hr' : (({ U with heap := s₂.heap, slotsUsed := s₂.slotsUsed } : State).setVm s₂.vm).frames = .java g₀ :: r := hr
  rcases hq' with ⟨hqc, L, hfe, hL⟩ | ⟨q, rfl, E, ce, L, hx, hce, hcv, hcl, hW₂, hsm, hL⟩
  · obtain ⟨⟨v, rfl⟩, hW₂, e2, q2, q3, q4, q5, q6⟩ := id hfe
    have e3 : s₂ = ({ (U.calling g mk a).setFrames s₂.frames with heap := s₂.heap, slotsUsed := s₂.slotsUsed } : State).setVm s₂.vm := by
      have : s₂ = ({ s₂ with vm := (U.calling g mk a).vm } : State).setVm s₂.vm := rfl
      rw [e2] at this
      exact this
    obtain ⟨c₂, i₂, len₂, hc₂, hd₂, hf₂⟩ := hend
    have hW' : U.WarmedH s₂.vm := hW₂
    have hcc : c₂ = c := by
      have h1 : s₂.code? g.method = U.code? g.method := by
        rw [State.code?_eq, State.code?_eq, hW'.alike.method?]
      exact Option.some.inj (hc₂.symm.trans (h1.trans h.code))
    subst hcc
    have hlen : len₂ = len := by rw [hdg] at hd₂; cases hd₂; rfl
    subst hlen
    have hs₂ : s₂ = (({ U with heap := s₂.heap, slotsUsed := s₂.slotsUsed } : State).setVm s₂.vm).setTop { g with pc := g.pc + len₂, stack := v.toList ++ g.stack } := by
      refine e3.trans ?_
      rw [hf₂, State.calling_eq h.top, State.setFrames_setFrames, State.setTop_of_frames _ hr', hr]
      rfl
    have hsame : U.sameButNew ({ U with heap := s₂.heap, slotsUsed := s₂.slotsUsed } : State) L mc ms := by
      refine ⟨?_, q2, q3, q4, q5, q6⟩
      obtain ⟨t, ht, -⟩ := State.frames_cons hr
      show ({ U with heap := s₂.heap, slotsUsed := s₂.slotsUsed } : State) = { U.setFrames U.frames with heap := s₂.heap, slotsUsed := s₂.slotsUsed }
      rw [State.setFrames_self ht]
    subst hg
    refine Or.inl ⟨v, ⟨(({ U with heap := s₂.heap, slotsUsed := s₂.slotsUsed } : State).setVm s₂.vm), Ls ++ L, c0 + mc, s0 + ms⟩,
      ⟨X.admits, X.cas, X.clock, X.frames, X.room, X.hears, X.method, X.code, (X.here.setHeapUsed s₂.heap s₂.slotsUsed).setVm hW'.alike, X.tail, State.WarmedH.trans X.warmed hW', X.limits, X.bytes, X.same.trans (hsame.setVm s.vm)⟩,
      ⟨g, mk, s₂, L, rfl, rfl, hqc, rfl, hL, rfl, rfl⟩, ?_⟩
    show Steps p.tables e below _ ((({ U with heap := s₂.heap, slotsUsed := s₂.slotsUsed } : State).setVm s₂.vm).setTop { g with pc := g.pc + len₂, stack := v.toList ++ g.stack })
    rw [← hs₂]
    exact hsteps
  · obtain ⟨e2, q2, q3, q4, q5, q6⟩ := id hsm
    have e3 : s₂ = ({ (U.calling g mk a).setFrames s₂.frames with heap := s₂.heap, slotsUsed := s₂.slotsUsed } : State).setVm s₂.vm := by
      have : s₂ = ({ s₂ with vm := (U.calling g mk a).vm } : State).setVm s₂.vm := rfl
      rw [e2] at this
      exact this
    have hf₂ : s₂.frames = .throwing q :: .java g :: U.frames.tail := hend
    have hW' : U.WarmedH s₂.vm := hW₂
    have hs₂ : s₂ = ((({ U with heap := s₂.heap, slotsUsed := s₂.slotsUsed } : State).setVm s₂.vm).setTop g).pushFrame (.throwing q) := by
      refine e3.trans ?_
      rw [hf₂, State.calling_eq h.top, State.setFrames_setFrames, State.pushFrame, State.frames_setTop _ hr', State.setTop_of_frames _ hr', State.setFrames_setFrames, hr]
      rfl
    have hsame : U.sameButNew ({ U with heap := s₂.heap, slotsUsed := s₂.slotsUsed } : State) L mc ms := by
      refine ⟨?_, q2, q3, q4, q5, q6⟩
      obtain ⟨t, ht, -⟩ := State.frames_cons hr
      show ({ U with heap := s₂.heap, slotsUsed := s₂.slotsUsed } : State) = { U.setFrames U.frames with heap := s₂.heap, slotsUsed := s₂.slotsUsed }
      rw [State.setFrames_self ht]
    subst hg
    refine Or.inr ⟨q, ⟨(({ U with heap := s₂.heap, slotsUsed := s₂.slotsUsed } : State).setVm s₂.vm), Ls ++ L, c0 + mc, s0 + ms⟩,
      ⟨X.admits, X.cas, X.clock, X.frames, X.room, X.hears, X.method, X.code, (X.here.setHeapUsed s₂.heap s₂.slotsUsed).setVm hW'.alike, X.tail, State.WarmedH.trans X.warmed hW', X.limits, X.bytes, X.same.trans (hsame.setVm s.vm)⟩,
      ⟨g, mk, s₂, L, E, ce, rfl, rfl, hx, hce, hcv, hcl, rfl, hL, rfl, rfl⟩, ?_⟩
    show Steps p.tables e below _ (((({ U with heap := s₂.heap, slotsUsed := s₂.slotsUsed } : State).setVm s₂.vm).setTop g).pushFrame (.throwing q))
    rw [← hs₂]
    exact hsteps
end Payer
section Calls
variable {p : Program} {l : Launch} {e : Env} {R : Room} {s : State} {m : MethodId} {args : Array Value} {below : List Frame} {meth : Method} {c : Code} {T : State} {locs : List Loc} {cells slots : Nat}
theorem vx_callV (X : Stand p l e R s m args below meth c T locs cells slots) (hexec : p.tables.exec = Jvm.exec) {own C : String} {index : Nat} {y : MethodName} {bytes : ByteArray} {maxL : Nat} {ret : Option FieldType}
    (hown : s.vm.findClass own = some m.cls) (hlink : (Cond.methodLink own index y).before args s = true) (hinst : (Cond.instanceMethod y).before args s = true) (hsel : (Cond.selects C y y).before args s = true)
    (hcode : (Cond.code y bytes maxL ret).before args s = true) (hy : y.cls ≠ "java/lang/invoke/MethodHandle" ∧ y.cls ≠ "java/lang/invoke/VarHandle")
    {W9 : Nat} {Pre : Pt → Array Value → Prop} {Post : Pt → Array Value → Option Value → Pt → Prop} {PostX : Pt → Array Value → Addr → Pt → Prop} (hK : vx_Back l R p e below s args y 3 W9 Pre Post PostX)
    {b : Addr} {cellB : Cell} (hcell : T.heap[b]? = some cellB) (hobj : cellB.vm.isStatics = false) (hcls : s.vm.findClass C = some cellB.cls)
    {g : JFrame} (hg : g.method = m) (hsize : g.locals.size = c.maxLocals) {argsL rest : List Value} (hlen : ∀ sig, parseMethodDescriptor y.desc = some sig → argsL.length = sig.parameters.length)
    (hstack : g.stack = argsL.reverse ++ .ref b :: rest) (hW : 2 * g.monitorRoom + (rest.map fun v => v.category).sum ≤ W9) (hdg : decode c.code g.pc = .ok (.invokevirtual index, 3))
    (hpre : ∀ vm₁, s.WarmedH vm₁ → Pre ⟨T.setVm vm₁, locs, cells, slots⟩ (Value.ref b :: argsL).toArray) :
    (∃ (v : Option Value) (vm₁ : Vm) (B : Pt), s.WarmedH vm₁ ∧ Stand p l e R s m args below meth c B.U B.locs B.cells B.slots ∧ Post ⟨T.setVm vm₁, locs, cells, slots⟩ (Value.ref b :: argsL).toArray v B ∧
      ∀ target, Steps p.tables e below (B.U.setTop { g with pc := g.pc + 3, stack := v.toList ++ rest }) target → Steps p.tables e below (T.setTop g) target) ∨
    (∃ (q : Addr) (vm₁ : Vm) (B : Pt), s.WarmedH vm₁ ∧ Stand p l e R s m args below meth c B.U B.locs B.cells B.slots ∧ PostX ⟨T.setVm vm₁, locs, cells, slots⟩ (Value.ref b :: argsL).toArray q B ∧
      Steps p.tables e below (T.setTop g) ((B.U.setTop { g with stack := rest }).pushFrame (.throwing q))) := by
  obtain ⟨mk, methM, hnamed, hmethM, hstM, habM⟩ := Cond.instanceMethod_spec hinst
  obtain ⟨methM', cM, hmethM', -, -, -, -, -, -, hsigM⟩ := Cond.code_spec hnamed hcode
  cases hmethM.symm.trans hmethM'
  obtain ⟨c2, r2, m2, q1, q2, q3, q4, kP, hkP, hkPi⟩ := Cond.selects_spec hsel
  cases hcls.symm.trans q1
  cases (State.methodFound?_of_named hnamed hy).symm.trans q2
  cases hnamed.symm.trans q3
  have hselP : selectMethod e.platform s.vm cellB.cls mk = .method mk := by rw [Launch.admits_selectMethod X.admits]; exact q4
  obtain ⟨vm₁, X₁, hstep₁⟩ := X.invokevirtual hexec hown hlink hnamed hmethM hstM hkP hkPi hy (a := b) (cell := cellB) hcell
    (fun z h => by rw [h] at hobj; cases hobj) hselP hmethM habM hkP hkPi (g := g) hg (argsL := argsL) (rest := rest) (hlen _ hsigM) hstack hdg
  rcases hK m meth c ⟨T.setVm vm₁, locs, cells, slots⟩ { g with stack := rest } (.invokevirtual index) mk (Value.ref b :: argsL).toArray X₁ hg hsize hdg hW (X₁.named hnamed) (hpre vm₁ X₁.warmed) with ⟨v, B, X', hpost, hsteps⟩ | ⟨q, B, X', hpost, hsteps⟩
  · exact Or.inl ⟨v, vm₁, B, X₁.warmed, X', hpost, fun target h => hstep₁ _ fun acts => by rw [doInvoke_state]; exact hsteps.trans h⟩
  · exact Or.inr ⟨q, vm₁, B, X₁.warmed, X', hpost, hstep₁ _ fun acts => by rw [doInvoke_state]; exact hsteps⟩
theorem vx_callS (X : Stand p l e R s m args below meth c T locs cells slots) (hexec : p.tables.exec = Jvm.exec) {own : String} {index : Nat} {y : MethodName} {bytes : ByteArray} {maxL : Nat} {ret : Option FieldType}
    (hown : s.vm.findClass own = some m.cls) (hlink : (Cond.methodLink own index y).before args s = true) (hstat : (Cond.static y).before args s = true) (hinit : (Cond.initialized y.cls).before args s = true)
    (hcode : (Cond.code y bytes maxL ret).before args s = true) (hy : y.cls ≠ "java/lang/invoke/MethodHandle" ∧ y.cls ≠ "java/lang/invoke/VarHandle")
    {W9 : Nat} {Pre : Pt → Array Value → Prop} {Post : Pt → Array Value → Option Value → Pt → Prop} {PostX : Pt → Array Value → Addr → Pt → Prop} (hK : vx_Back l R p e below s args y 3 W9 Pre Post PostX)
    {g : JFrame} (hg : g.method = m) (hsize : g.locals.size = c.maxLocals) {argsL rest : List Value} (hlen : ∀ sig, parseMethodDescriptor y.desc = some sig → argsL.length = sig.parameters.length)
    (hstack : g.stack = argsL.reverse ++ rest) (hW : 2 * g.monitorRoom + (rest.map fun v => v.category).sum ≤ W9) (hdg : decode c.code g.pc = .ok (.invokestatic index, 3))
    (hpre : ∀ vm₁, s.WarmedH vm₁ → Pre ⟨T.setVm vm₁, locs, cells, slots⟩ argsL.toArray) :
    (∃ (v : Option Value) (vm₁ : Vm) (B : Pt), s.WarmedH vm₁ ∧ Stand p l e R s m args below meth c B.U B.locs B.cells B.slots ∧ Post ⟨T.setVm vm₁, locs, cells, slots⟩ argsL.toArray v B ∧
      ∀ target, Steps p.tables e below (B.U.setTop { g with pc := g.pc + 3, stack := v.toList ++ rest }) target → Steps p.tables e below (T.setTop g) target) ∨
    (∃ (q : Addr) (vm₁ : Vm) (B : Pt), s.WarmedH vm₁ ∧ Stand p l e R s m args below meth c B.U B.locs B.cells B.slots ∧ PostX ⟨T.setVm vm₁, locs, cells, slots⟩ argsL.toArray q B ∧
      Steps p.tables e below (T.setTop g) ((B.U.setTop { g with stack := rest }).pushFrame (.throwing q))) := by
  obtain ⟨mk, hnamed⟩ := Cond.code_named hcode
  obtain ⟨methM, cM, hmethM, -, -, -, -, -, -, hsigM⟩ := Cond.code_spec hnamed hcode
  have hstatic : methM.isStatic = true := Cond.static_spec hnamed hmethM hstat
  obtain ⟨kP, hkP, -⟩ := className_of_methodNamed hnamed
  have hinitP : kP.init = .initialized := Cond.initialized_spec (findClass_of_methodNamed hnamed) hkP hinit
  obtain ⟨vm₁, X₁, hstep₁⟩ := X.invokestatic hexec hown hlink hnamed hmethM hstatic hkP hinitP hy (g := g) hg (argsL := argsL) (rest := rest) (hlen _ hsigM) hstack hdg
  rcases hK m meth c ⟨T.setVm vm₁, locs, cells, slots⟩ { g with stack := rest } (.invokestatic index) mk argsL.toArray X₁ hg hsize hdg hW (X₁.named hnamed) (hpre vm₁ X₁.warmed) with ⟨v, B, X', hpost, hsteps⟩ | ⟨q, B, X', hpost, hsteps⟩
  · exact Or.inl ⟨v, vm₁, B, X₁.warmed, X', hpost, fun target h => hstep₁ _ fun acts => by rw [doInvoke_state]; exact hsteps.trans h⟩
  · exact Or.inr ⟨q, vm₁, B, X₁.warmed, X', hpost, hstep₁ _ fun acts => by rw [doInvoke_state]; exact hsteps⟩
end Calls
theorem vx_cls {s : State} {T : State} {vm₁ : Vm} {E : String} {k : ClassId} (hW : s.WarmedH vm₁) (h : (T.setVm vm₁).vm.findClass E = some k) : s.vm.findClass E = some k := by
  have h1 : vm₁.findClass E = some k := h
  rw [hW.alike.findClass] at h1
  exact h1
/-- the method's frame g, with q thrown over it -/
def vx_W (p : Program) (l : Launch) (e : Env) (R : Room) (s : State) (m : MethodId) (args : Array Value) (below : List Frame) (meth : Method) (c : Code) (H : Heap) (locs : List Loc) (cells slots : Nat) (Q : State → Prop) (g : JFrame) (q : Addr) : Prop :=
  ∀ T : State, T.heap = H → Stand p l e R s m args below meth c T locs cells slots → ∃ t, Steps p.tables e below ((T.setTop g).pushFrame (.throwing q)) t ∧ Q t
def vx_Run (p : Program) (l : Launch) (e : Env) (R : Room) (s : State) (m : MethodId) (args : Array Value) (below : List Frame) (meth : Method) (c : Code) (H : Heap) (locs : List Loc) (cells slots mc ms : Nat) (g : JFrame) (rest : List Value) (Qa : State → Outcome → State → Prop) (XC : String → State → State → Prop) (free : Addr → Prop) : Prop :=
  ∀ T : State, T.heap = H → Stand p l e R s m args below meth c T locs cells slots →
    (∃ (v : Option Value) (st₀ t T' : State) (L : List Loc), st₀.heap = H ∧ Stand p l e R s m args below meth c T' (locs ++ L) (cells + mc) (slots + ms) ∧ (∀ q ∈ L, free q.base) ∧ T'.heap = t.heap ∧ T'.vm = t.vm ∧ Qa st₀ (.returned v) t ∧
      Goes p e below T g T' { g with pc := g.pc + 3, stack := v.toList ++ rest }) ∨
    (∃ (q : Addr) (st₀ t T' : State) (L : List Loc) (E : String) (ce : Cell), st₀.heap = H ∧ Stand p l e R s m args below meth c T' (locs ++ L) (cells + mc) (slots + ms) ∧ (∀ z ∈ L, free z.base) ∧ T'.heap = t.heap ∧ T'.vm = t.vm ∧ XC E st₀ t ∧ t.heap[q]? = some ce ∧ ce.vm = .none ∧ s.vm.findClass E = some ce.cls ∧
      Steps p.tables e below (T.setTop g) ((T'.setTop { g with stack := rest }).pushFrame (.throwing q)))
def vx_X {S : Type} (px : S → Prop) (B : String → S → State → Prop) (A : Nat → Prop) : String → State → State → Prop := fun E st t => ∃ u : S, px u ∧ B E u t ∧ va_F A st t
section Runs
variable {p : Program} {l : Launch} {e : Env} {R : Room} {s : State} {m : MethodId} {args : Array Value} {below : List Frame} {meth : Method} {c : Code} {H : Heap} {locs : List Loc} {cells slots : Nat}
variable {y : MethodName} {bytes cc : ByteArray} {maxL nL mc ms n index : Nat} {ret : Option FieldType} {ws : List Cond} {rm : Room} {Pc : Array Value → State → Prop} {Qc : Array Value → State → Outcome → State → Prop} {XC : String → State → State → Prop} {free : Addr → Prop} {Ts : List Cond} {own C : String} {b : Addr} {As rest : List Value} {g : JFrame}
theorem vx_callBack (cb : CallB R s args own index y bytes maxL ret ws rm mc ms n) (hM : vx_Met l y ws rm Pc Qc XC mc ms free) (hbl : FrameBlind Pc) : vx_Back l R p e below s args y 3 8 (PreOf R mc ms Pc) (PostOf Qc mc ms free) (vx_Post XC mc ms free) := by
  obtain ⟨hrc, hrs, hfr, hlo, hws, hcw, -, hini, -⟩ := cb
  exact vx_back (bytes := bytes) (maxL := maxL) (ret := ret) hM hbl hrc hrs hfr hlo hws hcw (fun a' U hW => word_at hW (Or.inl (by first | rfl | simp [Cond.onTables, Cond.keeps, Cond.steady])) hini)
theorem vx_runV (S : CallFix p m c cc nL s args Ts own) (hM : vx_Met l y ws rm Pc Qc XC mc ms free) (cw : CallW R s args own C index y bytes maxL ret ws rm mc ms n) (hp : PreV s H C b Pc As)
    (hg : g.method = m) (hn : As.length = n) (hsize : g.locals.size = nL) (hstack : g.stack = As.reverse ++ .ref b :: rest) (hW : 2 * g.monitorRoom + (rest.map fun v => v.category).sum ≤ 8) (hdg : decode cc g.pc = .ok (.invokevirtual index, 3)) (hf : cells + mc ≤ R.cells ∧ slots + ms ≤ R.slots) :
    vx_Run p l e R s m args below meth c H locs cells slots mc ms g rest (Qc (Value.ref b :: As).toArray) XC free := by
  have hK : vx_Back l R p e below s args y 3 8 (PreOf R mc ms Pc) (PostOf Qc mc ms free) (vx_Post XC mc ms free) := vx_callBack cw.1 hM hp.1
  obtain ⟨⟨-, -, -, -, -, -, hcode, -, hy, hlen, hl⟩, hin, hse⟩ := cw
  obtain ⟨hx, hb, hml, ho, -⟩ := S
  obtain ⟨-, ⟨cellB, hcB, hoB, hclB⟩, hPc⟩ := hp
  intro T hT X
  rcases vx_callV X hx (C := C) (bytes := bytes) (maxL := maxL) (ret := ret) ho hl hin hse hcode hy hK (by rw [hT]; exact hcB) hoB hclB hg (hsize.trans hml.symm) (argsL := As) (rest := rest) (fun sig h => hn.trans (hlen sig h)) hstack hW (by rw [hb]; exact hdg)
    (fun vm₁ hW₁ => ⟨hf.1, hf.2, hPc (T.setVm vm₁) hT hW₁⟩) with ⟨v, vm₁, ⟨U', l2, c2, s2⟩, hW₁, X', ⟨g', mk, t, L, e1, e2, hq, h1, hL, h2, h3⟩, st⟩ | ⟨q, vm₁, ⟨U', l2, c2, s2⟩, hW₁, X', ⟨g', mk, t, L, E, ce, e1, e2, hq, hce, hcv, hcl, h1, hL, h2, h3⟩, st⟩
  · dsimp only [Pt.U, Pt.locs, Pt.cells, Pt.slots] at X' e1 e2 h1 h2 h3 st
    subst h1; subst h2; subst h3
    exact Or.inl ⟨v, (T.setVm vm₁).calling g' mk (Value.ref b :: As).toArray, t, U', L, hT, X', hL, e1, e2, hq, st⟩
  · dsimp only [Pt.U, Pt.locs, Pt.cells, Pt.slots] at X' e1 e2 h1 h2 h3 st hcl
    subst h1; subst h2; subst h3
    exact Or.inr ⟨q, (T.setVm vm₁).calling g' mk (Value.ref b :: As).toArray, t, U', L, E, ce, hT, X', hL, e1, e2, hq, hce, hcv, vx_cls hW₁ hcl, st⟩
theorem vx_runS (S : CallFix p m c cc nL s args Ts own) (hM : vx_Met l y ws rm Pc Qc XC mc ms free) (cw : CallB R s args own index y bytes maxL ret ws rm mc ms n ∧ (Cond.static y).before args s = true) (hp : PreS s H Pc As)
    (hg : g.method = m) (hn : As.length = n) (hsize : g.locals.size = nL) (hstack : g.stack = As.reverse ++ rest) (hW : 2 * g.monitorRoom + (rest.map fun v => v.category).sum ≤ 8) (hdg : decode cc g.pc = .ok (.invokestatic index, 3)) (hf : cells + mc ≤ R.cells ∧ slots + ms ≤ R.slots) :
    vx_Run p l e R s m args below meth c H locs cells slots mc ms g rest (Qc As.toArray) XC free := by
  have hK : vx_Back l R p e below s args y 3 8 (PreOf R mc ms Pc) (PostOf Qc mc ms free) (vx_Post XC mc ms free) := vx_callBack cw.1 hM hp.1
  obtain ⟨⟨-, -, -, -, -, -, hcode, hini, hy, hlen, hl⟩, hstt⟩ := cw
  obtain ⟨hx, hb, hml, ho, -⟩ := S
  intro T hT X
  rcases vx_callS X hx (bytes := bytes) (maxL := maxL) (ret := ret) ho hl hstt hini hcode hy hK hg (hsize.trans hml.symm) (argsL := As) (rest := rest) (fun sig h => hn.trans (hlen sig h)) hstack hW (by rw [hb]; exact hdg)
    (fun vm₁ hW₁ => ⟨hf.1, hf.2, hp.2 (T.setVm vm₁) hT hW₁⟩) with ⟨v, vm₁, ⟨U', l2, c2, s2⟩, hW₁, X', ⟨g', mk, t, L, e1, e2, hq, h1, hL, h2, h3⟩, st⟩ | ⟨q, vm₁, ⟨U', l2, c2, s2⟩, hW₁, X', ⟨g', mk, t, L, E, ce, e1, e2, hq, hce, hcv, hcl, h1, hL, h2, h3⟩, st⟩
  · dsimp only [Pt.U, Pt.locs, Pt.cells, Pt.slots] at X' e1 e2 h1 h2 h3 st
    subst h1; subst h2; subst h3
    exact Or.inl ⟨v, (T.setVm vm₁).calling g' mk As.toArray, t, U', L, hT, X', hL, e1, e2, hq, st⟩
  · dsimp only [Pt.U, Pt.locs, Pt.cells, Pt.slots] at X' e1 e2 h1 h2 h3 st hcl
    subst h1; subst h2; subst h3
    exact Or.inr ⟨q, (T.setVm vm₁).calling g' mk As.toArray, t, U', L, E, ce, hT, X', hL, e1, e2, hq, hce, hcv, vx_cls hW₁ hcl, st⟩
end Runs
section Rows
variable {p : Program} {l : Launch} {e : Env} {R : Room} {s : State} {m : MethodId} {args : Array Value} {below : List Frame} {meth : Method} {c : Code} {H : Heap} {locs : List Loc} {cells slots : Nat} {Q : State → Prop}
variable {mc ms : Nat} {free : Addr → Prop} {A0 A1 : Nat → Prop} {H0 : Heap} {a : Array Value} {pc : Nat} {ls : Array Slot} {st0 rest : List Value}
theorem vx_keep {st₀ t T' : State} {L : List Loc} (h0 : st₀.heap = H) (e1 : T'.heap = t.heap) (hS : va_S A0 H0 H locs) (hA : ∀ q, q < H.size → A1 q → A0 q) (hf : ∀ q, free q → A0 q) (hL : ∀ q ∈ L, free q.base) (hF : va_F A1 st₀ t) :
    H.size ≤ T'.heap.size ∧ (∀ q : Nat, q < H.size → ¬ A1 q → T'.heap[q]? = H[q]?) ∧ va_S A0 H0 T'.heap (locs ++ L) := by
  obtain ⟨hz, hk⟩ := hF
  rw [h0] at hz hk
  exact ⟨by rw [e1]; exact hz, fun q h1 h2 => by rw [e1]; exact hk q h1 h2,
    ⟨Nat.le_trans hS.1 (by rw [e1]; exact hz), fun q h1 h2 => by rw [e1, hk q (Nat.lt_of_lt_of_le h1 hS.1) (fun z => h2 (hA q (Nat.lt_of_lt_of_le h1 hS.1) z))]; exact hS.2.1 q h1 h2, fun q hq => by
      rcases List.mem_append.mp hq with h | h
      · exact hS.2.2 q h
      · exact hf _ (hL q h)⟩⟩
theorem vx_calli {S SX : Type} {post : Int32 → S → Prop} {px : SX → Prop} {B : S → State → Prop} {BX : String → SX → State → Prop} {AX : Nat → Prop} (hr : vx_Run p l e R s m args below meth c H locs cells slots mc ms (F0 m pc ls st0) rest (va_Qi post B A1 a) (vx_X px BX AX) free) (hS : va_S A0 H0 H locs) (hA : ∀ q, q < H.size → A1 q → A0 q) (hf : ∀ q, free q → A0 q) (hAX : ∀ q, q < H.size → AX q → A0 q)
    (kx : ∀ (E : String) (ce : Cell) (q9 : Addr) (u : SX) (t : State) (H1 : Heap) (locs1 : List Loc), t.heap = H1 → s.vm.Alike t.vm → px u → BX E u t → H.size ≤ H1.size → (∀ q : Nat, q < H.size → ¬ AX q → H1[q]? = H[q]?) → va_S A0 H0 H1 locs1 → H1[q9]? = some ce → ce.vm = .none → s.vm.findClass E = some ce.cls → vx_W p l e R s m args below meth c H1 locs1 (cells + mc) (slots + ms) Q (F0 m pc ls rest) q9)
    (kk : ∀ (r : Int32) (u : S) (t : State) (H1 : Heap) (locs1 : List Loc), t.heap = H1 → s.vm.Alike t.vm → post r u → B u t → H.size ≤ H1.size → (∀ q : Nat, q < H.size → ¬ A1 q → H1[q]? = H[q]?) → va_S A0 H0 H1 locs1 → W p l e R s m args below meth c H1 locs1 (cells + mc) (slots + ms) Q (F0 m (pc + 3) ls (.int r :: rest))) : W p l e R s m args below meth c H locs cells slots Q (F0 m pc ls st0) := by
  intro T hT X
  rcases hr T hT X with ⟨v, st₀, t, T', L, h0, X', hL, e1, e2, ⟨⟨r, u, hv, hp, hb⟩, hF⟩, st⟩ | ⟨q, st₀, t, T', L, E, ce, h0, X', hL, e1, e2, ⟨u, hp, hb, hF⟩, hce, hcv, hcl, st⟩
  · cases hv
    obtain ⟨k1, k2, k3⟩ := vx_keep h0 e1 hS hA hf hL hF
    obtain ⟨t2, a1, b1⟩ := kk r u t T'.heap (locs ++ L) e1.symm (by rw [← e2]; exact X'.warmed.alike) hp hb k1 k2 k3 T' rfl X'
    exact ⟨t2, st t2 a1, b1⟩
  · obtain ⟨k1, k2, k3⟩ := vx_keep h0 e1 hS hAX hf hL hF
    obtain ⟨t2, a1, b1⟩ := kx E ce q u t T'.heap (locs ++ L) e1.symm (by rw [← e2]; exact X'.warmed.alike) hp hb k1 k2 k3 (by rw [e1]; exact hce) hcv hcl T' rfl X'
    exact ⟨t2, st.trans a1, b1⟩
theorem vx_calll {S SX : Type} {post : Int64 → S → Prop} {px : SX → Prop} {B : S → State → Prop} {BX : String → SX → State → Prop} {AX : Nat → Prop} (hr : vx_Run p l e R s m args below meth c H locs cells slots mc ms (F0 m pc ls st0) rest (va_Ql post B A1 a) (vx_X px BX AX) free) (hS : va_S A0 H0 H locs) (hA : ∀ q, q < H.size → A1 q → A0 q) (hf : ∀ q, free q → A0 q) (hAX : ∀ q, q < H.size → AX q → A0 q)
    (kx : ∀ (E : String) (ce : Cell) (q9 : Addr) (u : SX) (t : State) (H1 : Heap) (locs1 : List Loc), t.heap = H1 → s.vm.Alike t.vm → px u → BX E u t → H.size ≤ H1.size → (∀ q : Nat, q < H.size → ¬ AX q → H1[q]? = H[q]?) → va_S A0 H0 H1 locs1 → H1[q9]? = some ce → ce.vm = .none → s.vm.findClass E = some ce.cls → vx_W p l e R s m args below meth c H1 locs1 (cells + mc) (slots + ms) Q (F0 m pc ls rest) q9)
    (kk : ∀ (r : Int64) (u : S) (t : State) (H1 : Heap) (locs1 : List Loc), t.heap = H1 → s.vm.Alike t.vm → post r u → B u t → H.size ≤ H1.size → (∀ q : Nat, q < H.size → ¬ A1 q → H1[q]? = H[q]?) → va_S A0 H0 H1 locs1 → W p l e R s m args below meth c H1 locs1 (cells + mc) (slots + ms) Q (F0 m (pc + 3) ls (.long r :: rest))) : W p l e R s m args below meth c H locs cells slots Q (F0 m pc ls st0) := by
  intro T hT X
  rcases hr T hT X with ⟨v, st₀, t, T', L, h0, X', hL, e1, e2, ⟨⟨r, u, hv, hp, hb⟩, hF⟩, st⟩ | ⟨q, st₀, t, T', L, E, ce, h0, X', hL, e1, e2, ⟨u, hp, hb, hF⟩, hce, hcv, hcl, st⟩
  · cases hv
    obtain ⟨k1, k2, k3⟩ := vx_keep h0 e1 hS hA hf hL hF
    obtain ⟨t2, a1, b1⟩ := kk r u t T'.heap (locs ++ L) e1.symm (by rw [← e2]; exact X'.warmed.alike) hp hb k1 k2 k3 T' rfl X'
    exact ⟨t2, st t2 a1, b1⟩
  · obtain ⟨k1, k2, k3⟩ := vx_keep h0 e1 hS hAX hf hL hF
    obtain ⟨t2, a1, b1⟩ := kx E ce q u t T'.heap (locs ++ L) e1.symm (by rw [← e2]; exact X'.warmed.alike) hp hb k1 k2 k3 (by rw [e1]; exact hce) hcv hcl T' rfl X'
    exact ⟨t2, st.trans a1, b1⟩
theorem vx_callf {S SX : Type} {post : UInt32 → S → Prop} {px : SX → Prop} {B : S → State → Prop} {BX : String → SX → State → Prop} {AX : Nat → Prop} (hr : vx_Run p l e R s m args below meth c H locs cells slots mc ms (F0 m pc ls st0) rest (va_Qf post B A1 a) (vx_X px BX AX) free) (hS : va_S A0 H0 H locs) (hA : ∀ q, q < H.size → A1 q → A0 q) (hf : ∀ q, free q → A0 q) (hAX : ∀ q, q < H.size → AX q → A0 q)
    (kx : ∀ (E : String) (ce : Cell) (q9 : Addr) (u : SX) (t : State) (H1 : Heap) (locs1 : List Loc), t.heap = H1 → s.vm.Alike t.vm → px u → BX E u t → H.size ≤ H1.size → (∀ q : Nat, q < H.size → ¬ AX q → H1[q]? = H[q]?) → va_S A0 H0 H1 locs1 → H1[q9]? = some ce → ce.vm = .none → s.vm.findClass E = some ce.cls → vx_W p l e R s m args below meth c H1 locs1 (cells + mc) (slots + ms) Q (F0 m pc ls rest) q9)
    (kk : ∀ (r : UInt32) (u : S) (t : State) (H1 : Heap) (locs1 : List Loc), t.heap = H1 → s.vm.Alike t.vm → post r u → B u t → H.size ≤ H1.size → (∀ q : Nat, q < H.size → ¬ A1 q → H1[q]? = H[q]?) → va_S A0 H0 H1 locs1 → W p l e R s m args below meth c H1 locs1 (cells + mc) (slots + ms) Q (F0 m (pc + 3) ls (.float r :: rest))) : W p l e R s m args below meth c H locs cells slots Q (F0 m pc ls st0) := by
  intro T hT X
  rcases hr T hT X with ⟨v, st₀, t, T', L, h0, X', hL, e1, e2, ⟨⟨r, u, hv, hp, hb⟩, hF⟩, st⟩ | ⟨q, st₀, t, T', L, E, ce, h0, X', hL, e1, e2, ⟨u, hp, hb, hF⟩, hce, hcv, hcl, st⟩
  · cases hv
    obtain ⟨k1, k2, k3⟩ := vx_keep h0 e1 hS hA hf hL hF
    obtain ⟨t2, a1, b1⟩ := kk r u t T'.heap (locs ++ L) e1.symm (by rw [← e2]; exact X'.warmed.alike) hp hb k1 k2 k3 T' rfl X'
    exact ⟨t2, st t2 a1, b1⟩
  · obtain ⟨k1, k2, k3⟩ := vx_keep h0 e1 hS hAX hf hL hF
    obtain ⟨t2, a1, b1⟩ := kx E ce q u t T'.heap (locs ++ L) e1.symm (by rw [← e2]; exact X'.warmed.alike) hp hb k1 k2 k3 (by rw [e1]; exact hce) hcv hcl T' rfl X'
    exact ⟨t2, st.trans a1, b1⟩
theorem vx_calld {S SX : Type} {post : UInt64 → S → Prop} {px : SX → Prop} {B : S → State → Prop} {BX : String → SX → State → Prop} {AX : Nat → Prop} (hr : vx_Run p l e R s m args below meth c H locs cells slots mc ms (F0 m pc ls st0) rest (va_Qd post B A1 a) (vx_X px BX AX) free) (hS : va_S A0 H0 H locs) (hA : ∀ q, q < H.size → A1 q → A0 q) (hf : ∀ q, free q → A0 q) (hAX : ∀ q, q < H.size → AX q → A0 q)
    (kx : ∀ (E : String) (ce : Cell) (q9 : Addr) (u : SX) (t : State) (H1 : Heap) (locs1 : List Loc), t.heap = H1 → s.vm.Alike t.vm → px u → BX E u t → H.size ≤ H1.size → (∀ q : Nat, q < H.size → ¬ AX q → H1[q]? = H[q]?) → va_S A0 H0 H1 locs1 → H1[q9]? = some ce → ce.vm = .none → s.vm.findClass E = some ce.cls → vx_W p l e R s m args below meth c H1 locs1 (cells + mc) (slots + ms) Q (F0 m pc ls rest) q9)
    (kk : ∀ (r : UInt64) (u : S) (t : State) (H1 : Heap) (locs1 : List Loc), t.heap = H1 → s.vm.Alike t.vm → post r u → B u t → H.size ≤ H1.size → (∀ q : Nat, q < H.size → ¬ A1 q → H1[q]? = H[q]?) → va_S A0 H0 H1 locs1 → W p l e R s m args below meth c H1 locs1 (cells + mc) (slots + ms) Q (F0 m (pc + 3) ls (.double r :: rest))) : W p l e R s m args below meth c H locs cells slots Q (F0 m pc ls st0) := by
  intro T hT X
  rcases hr T hT X with ⟨v, st₀, t, T', L, h0, X', hL, e1, e2, ⟨⟨r, u, hv, hp, hb⟩, hF⟩, st⟩ | ⟨q, st₀, t, T', L, E, ce, h0, X', hL, e1, e2, ⟨u, hp, hb, hF⟩, hce, hcv, hcl, st⟩
  · cases hv
    obtain ⟨k1, k2, k3⟩ := vx_keep h0 e1 hS hA hf hL hF
    obtain ⟨t2, a1, b1⟩ := kk r u t T'.heap (locs ++ L) e1.symm (by rw [← e2]; exact X'.warmed.alike) hp hb k1 k2 k3 T' rfl X'
    exact ⟨t2, st t2 a1, b1⟩
  · obtain ⟨k1, k2, k3⟩ := vx_keep h0 e1 hS hAX hf hL hF
    obtain ⟨t2, a1, b1⟩ := kx E ce q u t T'.heap (locs ++ L) e1.symm (by rw [← e2]; exact X'.warmed.alike) hp hb k1 k2 k3 (by rw [e1]; exact hce) hcv hcl T' rfl X'
    exact ⟨t2, st.trans a1, b1⟩
theorem vx_callv {S SX : Type} {post : S → Prop} {px : SX → Prop} {B : S → State → Prop} {BX : String → SX → State → Prop} {AX : Nat → Prop} (hr : vx_Run p l e R s m args below meth c H locs cells slots mc ms (F0 m pc ls st0) rest (va_Qv post B A1 a) (vx_X px BX AX) free) (hS : va_S A0 H0 H locs) (hA : ∀ q, q < H.size → A1 q → A0 q) (hf : ∀ q, free q → A0 q) (hAX : ∀ q, q < H.size → AX q → A0 q)
    (kx : ∀ (E : String) (ce : Cell) (q9 : Addr) (u : SX) (t : State) (H1 : Heap) (locs1 : List Loc), t.heap = H1 → s.vm.Alike t.vm → px u → BX E u t → H.size ≤ H1.size → (∀ q : Nat, q < H.size → ¬ AX q → H1[q]? = H[q]?) → va_S A0 H0 H1 locs1 → H1[q9]? = some ce → ce.vm = .none → s.vm.findClass E = some ce.cls → vx_W p l e R s m args below meth c H1 locs1 (cells + mc) (slots + ms) Q (F0 m pc ls rest) q9)
    (kk : ∀ (u : S) (t : State) (H1 : Heap) (locs1 : List Loc), t.heap = H1 → s.vm.Alike t.vm → post u → B u t → H.size ≤ H1.size → (∀ q : Nat, q < H.size → ¬ A1 q → H1[q]? = H[q]?) → va_S A0 H0 H1 locs1 → W p l e R s m args below meth c H1 locs1 (cells + mc) (slots + ms) Q (F0 m (pc + 3) ls (rest))) : W p l e R s m args below meth c H locs cells slots Q (F0 m pc ls st0) := by
  intro T hT X
  rcases hr T hT X with ⟨v, st₀, t, T', L, h0, X', hL, e1, e2, ⟨⟨u, hv, hp, hb⟩, hF⟩, st⟩ | ⟨q, st₀, t, T', L, E, ce, h0, X', hL, e1, e2, ⟨u, hp, hb, hF⟩, hce, hcv, hcl, st⟩
  · cases hv
    obtain ⟨k1, k2, k3⟩ := vx_keep h0 e1 hS hA hf hL hF
    obtain ⟨t2, a1, b1⟩ := kk u t T'.heap (locs ++ L) e1.symm (by rw [← e2]; exact X'.warmed.alike) hp hb k1 k2 k3 T' rfl X'
    exact ⟨t2, st t2 a1, b1⟩
  · obtain ⟨k1, k2, k3⟩ := vx_keep h0 e1 hS hAX hf hL hF
    obtain ⟨t2, a1, b1⟩ := kx E ce q u t T'.heap (locs ++ L) e1.symm (by rw [← e2]; exact X'.warmed.alike) hp hb k1 k2 k3 (by rw [e1]; exact hce) hcv hcl T' rfl X'
    exact ⟨t2, st.trans a1, b1⟩
/-- caught by the row x of this method's table; the rows ahead don't take it -/
theorem vx_catch {own name : String} {E : String} {ce : Cell} {q : Addr} (hown : s.vm.findClass own = some m.cls) (pre : List ExceptionTableEntry) (x : ExceptionTableEntry) (suf : List ExceptionTableEntry) (hsplit : c.exceptionTable.toList = pre ++ x :: suf)
    (hpass : ∀ z ∈ pre, covers z pc = false ∨ (z.catchType ≠ 0 ∧ ∃ nm : String, (Cond.classLink own z.catchType nm).before args s = true ∧ va_Nc E nm s)) (hx : covers x pc = true) (h0 : x.catchType ≠ 0)
    (hlink : (Cond.classLink own x.catchType name).before args s = true) (hcast : (Cond.castable E name).before args s = true) (hcell : H[q]? = some ce) (hv : ce.vm = .none) (hcl : s.vm.findClass E = some ce.cls)
    (kk : W p l e R s m args below meth c H locs cells slots Q (F0 m x.handlerPc ls [.ref q])) : vx_W p l e R s m args below meth c H locs cells slots Q (F0 m pc ls rest) q := by
  intro T hT X
  have hpl : e.platform.magicAccessors = ({} : Platform).magicAccessors := by rw [X.admits.platform]
  obtain ⟨c3, c4, hc3, hc4, hasg⟩ := Cond.castable_spec hcast
  cases Option.some.inj (hc3.symm.trans hcl)
  obtain ⟨c5, hc5, hcl5⟩ := Cond.classLink_spec hown hlink e.platform hpl
  cases Option.some.inj (hc4.symm.trans hc5)
  obtain ⟨vm', X', st⟩ := X.thenCaughtThrough q (g := F0 m pc ls rest) rfl (Steps.refl _) (by rw [hT]; exact hcell) (by rw [hv]; rfl) (by obtain ⟨k9, h9, -⟩ := Vm.findClass_spec hcl; exact ⟨k9, h9⟩) pre x suf hsplit
    (fun z hz => by
      rcases hpass z hz with h | ⟨hz0, nm, hl1, hn1⟩
      · exact Or.inl h
      · obtain ⟨c6, hc6, hcl6⟩ := Cond.classLink_spec hown hl1 e.platform hpl
        obtain ⟨a8, b8, h1, h2, h3⟩ := hn1
        cases Option.some.inj (h1.symm.trans hcl)
        cases Option.some.inj (h2.symm.trans hc6)
        exact Or.inr ⟨hz0, _, hcl6, h3⟩) hx (Or.inr ⟨h0, c4, hcl5, hasg⟩)
  obtain ⟨t, a1, b1⟩ := kk (T.setVm vm') hT X'
  exact ⟨t, st.trans a1, b1⟩
end Rows
section Ends
variable {p : Program} {l : Launch} {e : Env} {R : Room} {s : State} {m : MethodId} {args : Array Value} {below : List Frame} {meth : Method} {c : Code} {H : Heap} {locs : List Loc} {cells slots : Nat} {Q : State → Prop}
variable {mc ms : Nat} {free : Addr → Prop} {A0 A1 : Nat → Prop} {H0 : Heap} {a : Array Value} {ls : Array Slot} {st0 rest : List Value}
variable {Qc : Array Value → State → Outcome → State → Prop} {XC : String → State → State → Prop}
/-- what a body that may throw owes at its end -/
def vx_MQ (below : List Frame) (Qc : Array Value → State → Outcome → State → Prop) (XC : String → State → State → Prop) (a : Array Value) (s : State) (mc ms : Nat) (free : Addr → Prop) : State → Prop := fun t =>
  ∃ o, t.status = .running ∧ Ended t below o ∧ vx_Q Qc XC mc ms free a s o t
theorem vx_ret {g : JFrame} {mc ms : Nat} (k : W p l e R s m args below meth c H locs cells slots (MQ below Qc args s mc ms free) g) : W p l e R s m args below meth c H locs cells slots (vx_MQ below Qc XC args s mc ms free) g := by
  intro T hT X
  obtain ⟨t, a1, o, b1, b2, b3, b4⟩ := k T hT X
  exact ⟨t, a1, o, b1, b2, Or.inl ⟨b3, b4⟩⟩
/-- not caught here: it goes on to the caller -/
theorem vx_widen {g : JFrame} {q : Addr} {k n : Nat} (h1 : cells ≤ k) (h2 : slots ≤ n) (kk : vx_W p l e R s m args below meth c H locs k n Q g q) : vx_W p l e R s m args below meth c H locs cells slots Q g q := fun T hT X => kk T hT (stand_widen X h1 h2)
theorem vx_out {pc : Nat} {E : String} {ce : Cell} {q : Addr} {mc ms : Nat} (hout : ∀ x ∈ c.exceptionTable.toList, covers x pc = false) (hlocks : meth.locks = false) (hcell : H[q]? = some ce) (hv : ce.vm = .none) (hcl : s.vm.findClass E = some ce.cls)
    (hx : ∀ t : State, t.heap = H → s.vm.Alike t.vm → XC E s t) (hf : ∀ z ∈ locs, free z.base) (hc : cells ≤ mc) (hs : slots ≤ ms) :
    vx_W p l e R s m args below meth c H locs cells slots (vx_MQ below Qc XC args s mc ms free) (F0 m pc ls rest) q := by
  intro T hT X
  obtain ⟨st1, hrun, hend, hW, hsm⟩ := X.leaveThrown q (g := F0 m pc ls rest) rfl rfl rfl hout hlocks
  have hcell9 : (T.setFrames (.throwing q :: below)).heap[q]? = some ce := by
    show T.heap[q]? = some ce
    rw [hT]; exact hcell
  exact ⟨_, st1, .threw q, hrun, hend, Or.inr ⟨q, rfl, E, ce, locs, hx _ hT hW.alike, hcell9, hv, hcl, hW, hsm.mono hc hs, hf⟩⟩
theorem vx_frame {U : State} {k n : Nat} (h : s.sameButNew ({ U with vm := s.vm } : State) locs k n) : s.heap.size ≤ U.heap.size ∧ ∀ q : Nat, q < s.heap.size → (∀ z ∈ locs, z.base ≠ q) → U.heap[q]? = s.heap[q]? := by
  obtain ⟨-, h2, -, -, -, h6⟩ := h
  refine ⟨h2, fun q hq hz => ?_⟩
  obtain ⟨c9, e1, e2, e3, e4⟩ := h6 q _ (Array.getElem?_eq_getElem hq)
  have hs : c9.slots = (s.heap[q]).slots := Array.ext_getElem? fun i => e4 i fun hm => hz _ hm rfl
  have h9 : c9 = s.heap[q] := by
    rw [hs] at e2
    exact e2
  have e5 : U.heap[q]? = some c9 := e1
  rw [e5, h9, Array.getElem?_eq_getElem hq]
/-- the words of a throw but the four that speak of the heap -/
def vx_no (w : Cond) : Bool := decide (w ≠ .isRef (.static Bundle.tN "UNASSIGNED_STACK" Bundle.steD)) && decide (w ≠ .isRef (.static Bundle.tN "SUPPRESSED_SENTINEL" Bundle.listD)) && decide (w ≠ .laysStatic Bundle.tN "UNASSIGNED_STACK" Bundle.steD) && decide (w ≠ .laysStatic Bundle.tN "SUPPRESSED_SENTINEL" Bundle.listD)
def vx_at0 (own : String) (ic : Nat) (X : String) (names : List String) : List Cond := (Bundle.ownAtoms0 own ic X names).filter vx_no
def vx_atS (own : String) (ic : Nat) (X : String) (names : List String) : List Cond := (Bundle.ownAtoms own ic X names).filter vx_no
/-- a word that the tables alone decide, or a good one -/
def vx_ot (w : Cond) : Bool := w.onTables || goodWord w
theorem vx_ot_at {args a' : Array Value} {s U : State} {w : Cond} (hW : s.WarmedH U.vm) (hvm : s.vm = U.vm) (hg : vx_ot w = true) (h : w.before args s = true) : w.before a' U = true := by
  simp only [vx_ot, Bool.or_eq_true] at hg
  rcases hg with hg | hg
  · exact va_tabs hg hvm h
  · exact word_at hW (good_of_word hg) h
/-- a list's words: the good ones out of the method's own list, the others by premises of their own -/
theorem vx_hat {args : Array Value} {s : State} {L B : List Cond} (h1 : ∀ w ∈ L.filter goodWord, w.before args s = true) (h2 : ∀ w ∈ L.filter (fun w => !goodWord w), w ∈ B) (h3 : ∀ w ∈ B, w.before args s = true) : ∀ w ∈ L, w.before args s = true := by
  intro w hw
  by_cases g : goodWord w = true
  · exact h1 w (List.mem_filter.mpr ⟨hw, g⟩)
  · refine h3 w (h2 w (List.mem_filter.mpr ⟨hw, ?_⟩))
    show (!goodWord w) = true
    cases hgw : goodWord w
    · rfl
    · exact absurd hgw g
theorem vx_c {args : Array Value} {s : State} {w : Cond} {B : List Cond} (h : w.before args s = true) (t : ∀ w ∈ B, w.before args s = true) : ∀ w' ∈ w :: B, w'.before args s = true := fun w' h' => (List.mem_cons.mp h').elim (fun e => by rw [e]; exact h) (t w')
theorem vx_n {args : Array Value} {s : State} : ∀ w ∈ ([] : List Cond), w.before args s = true := fun _ h => nomatch h
theorem vx_own {args : Array Value} {s : State} {L : List Cond} (h1 : ∀ w ∈ L.filter vx_no, w.before args s = true)
    (hU : (Cond.isRef (.static Bundle.tN "UNASSIGNED_STACK" Bundle.steD)).before args s = true) (hN : (Cond.isRef (.static Bundle.tN "SUPPRESSED_SENTINEL" Bundle.listD)).before args s = true)
    (lU : (Cond.laysStatic Bundle.tN "UNASSIGNED_STACK" Bundle.steD).before args s = true) (lN : (Cond.laysStatic Bundle.tN "SUPPRESSED_SENTINEL" Bundle.listD).before args s = true) : ∀ w ∈ L, w.before args s = true := by
  intro w hw
  by_cases e1 : w = .isRef (.static Bundle.tN "UNASSIGNED_STACK" Bundle.steD)
  · rw [e1]; exact hU
  · by_cases e2 : w = .isRef (.static Bundle.tN "SUPPRESSED_SENTINEL" Bundle.listD)
    · rw [e2]; exact hN
    · by_cases e3 : w = .laysStatic Bundle.tN "UNASSIGNED_STACK" Bundle.steD
      · rw [e3]; exact lU
      · by_cases e4 : w = .laysStatic Bundle.tN "SUPPRESSED_SENTINEL" Bundle.listD
        · rw [e4]; exact lN
        · exact h1 w (List.mem_filter.mpr ⟨hw, by unfold vx_no; rw [decide_eq_true e1, decide_eq_true e2, decide_eq_true e3, decide_eq_true e4]; rfl⟩)
/-- where a static field lies, its class's statics cell in H -/
def vx_L (C n d : String) (A : Nat → Prop) (U : State) (H : Heap) : Prop := ∃ (c : ClassId) (k : Class) (i : Nat) (f : Field) (a : Nat) (cell : Cell), U.vm.findClass C = some c ∧ U.fieldFound? C n d = some (c, k, i, f) ∧ f.isStatic = true ∧ k.statics = some a ∧ H[a]? = some cell ∧ cell.vm.isStatics = true ∧ cell.cls = c ∧ f.slot < cell.slots.size ∧ k.staticTypes[f.slot]? = some f.type ∧ ¬ A a
theorem vx_L.moved {C n d : String} {A : Nat → Prop} {u U : State} {H : Heap} (hvm : u.vm.Alike U.vm) (h : vx_L C n d A u H) : vx_L C n d A U H := by
  obtain ⟨c, k, i, f, a, cell, h1, h2, h3, h4, h5, h6, h7, h8, h9, h10⟩ := h
  obtain ⟨k', hi', he⟩ := State.fieldFound?_setVm hvm h2
  exact ⟨c, k', i, f, a, cell, by rw [hvm.findClass]; exact h1, hi', h3, by rw [he]; exact h4, h5, h6, h7, h8, by rw [he]; exact h9, h10⟩
theorem vx_L.kept {C n d : String} {A : Nat → Prop} {U : State} {H H1 : Heap} (h : vx_L C n d A U H) (hq : ∀ a : Nat, a < H.size → ¬ A a → H1[a]? = H[a]?) : vx_L C n d A U H1 := by
  obtain ⟨c, k, i, f, a, cell, h1, h2, h3, h4, h5, h6, h7, h8, h9, h10⟩ := h
  exact ⟨c, k, i, f, a, cell, h1, h2, h3, h4, by rw [hq a (Array.getElem?_eq_some_iff.mp h5).1 h10]; exact h5, h6, h7, h8, h9, h10⟩
theorem vx_L.narrow {C n d : String} {A B : Nat → Prop} {U : State} {H : Heap} (h : vx_L C n d A U H) (hAB : ∀ q, B q → A q) : vx_L C n d B U H := by
  obtain ⟨c, k, i, f, a, cell, h1, h2, h3, h4, h5, h6, h7, h8, h9, h10⟩ := h
  exact ⟨c, k, i, f, a, cell, h1, h2, h3, h4, h5, h6, h7, h8, h9, fun z => h10 (hAB _ z)⟩
theorem vx_L.word {C n d : String} {A : Nat → Prop} {s : State} {args : Array Value} (h : vx_L C n d A s s.heap) : (Cond.laysStatic C n d).before args s = true := by
  obtain ⟨c, k, i, f, a, cell, h1, h2, h3, h4, h5, h6, h7, h8, h9, -⟩ := h
  show (Cond.laysStatic C n d).holds args s none s [] = true
  exact Cond.laysStatic_of h1 h2 h3 h4 h5 h6 h7 h8 h9
/-- .. and what it holds: null or some reference -/
def vx_Zq (C n d : String) (A : Nat → Prop) (U : State) (H : Heap) : Prop := va_Zq C n d A U H ∧ vx_L C n d A U H
theorem vx_Zq.moved {C n d : String} {A : Nat → Prop} {u U : State} {H : Heap} (hvm : u.vm.Alike U.vm) (h : vx_Zq C n d A u H) : vx_Zq C n d A U H := ⟨va_Zq.moved hvm h.1, vx_L.moved hvm h.2⟩
theorem vx_Zq.kept {C n d : String} {A : Nat → Prop} {U : State} {H H1 : Heap} (h : vx_Zq C n d A U H) (hq : ∀ a : Nat, a < H.size → ¬ A a → H1[a]? = H[a]?) : vx_Zq C n d A U H1 := ⟨va_Zq.kept h.1 hq, vx_L.kept h.2 hq⟩
theorem vx_Zq.narrow {C n d : String} {A B : Nat → Prop} {U : State} {H : Heap} (h : vx_Zq C n d A U H) (hAB : ∀ q, B q → A q) : vx_Zq C n d B U H := ⟨va_Zq.narrow h.1 hAB, vx_L.narrow h.2 hAB⟩
theorem vx_Zqof {args : Array Value} {s : State} {C n d : String} {A : Nat → Prop} (hl : (Cond.laysStatic C n d).before args s = true) (hini : (Cond.initialized C).before args s = true) (h : (Cond.isRef (.static C n d)).before args s = true) (hA : ∀ a : Nat, a < s.heap.size → ¬ A a) : vx_Zq C n d A s s.heap := by
  refine ⟨va_Zqof hl hini h hA, ?_⟩
  obtain ⟨c, k, i, f, a, cell, h1, h2, h3, h4, h5, h6, h7, h8, h9⟩ := Cond.laysStatic_spec hl
  exact ⟨c, k, i, f, a, cell, h1, h2, h3, h4, h5, h6, h7, h8, h9, hA a (Array.getElem?_eq_some_iff.mp h5).1⟩
theorem vx_isRef {C n d : String} {v : Value} {A : Nat → Prop} {s : State} {args : Array Value} (h : va_Z C n d v A s s.heap) (hv : v.isRef = true) : (Cond.isRef (.static C n d)).before args s = true := by
  obtain ⟨cf, kf, fi, f, a, cell, h1, h2, h3, h4, h5, h6, h7, -⟩ := h
  have he : (Term.static C n d).eval args s none [] s = some v := by
    simp [Term.eval, State.fieldNamed?, h1, h2, h4, h5, h6, h7]
  simp only [Cond.before, Cond.holds, Cond.value, he]
  cases v <;> simp_all [Value.isRef]
theorem vx_isRefq {C n d : String} {A : Nat → Prop} {s : State} {args : Array Value} (h : va_Zq C n d A s s.heap) : (Cond.isRef (.static C n d)).before args s = true := by
  rcases h with h | ⟨t, h⟩
  · exact vx_isRef h rfl
  · exact vx_isRef h rfl
/-- the same frame, seen from here: as if the method were called anew in this heap -/
theorem vx_rebase {T : State} (X : Stand p l e R s m args below meth c T locs cells slots) {R' : Room} (hf : R'.frames ≤ R.frames) (hl : R'.locals ≤ R.locals) (hc : cells + R'.cells ≤ R.cells) (hs : slots + R'.slots ≤ R.slots) :
    Stand p l e R' ((T.setVm s.vm).setFrames (.invoking m args :: below)) m args below meth c T [] 0 0 := by
  have htop : (T.setVm s.vm).topJava?.isSome := X.here.top
  have hF : ((T.setVm s.vm).setFrames (.invoking m args :: below)).frames = .invoking m args :: below := State.frames_setFrames _ (State.cur_lt_of_top htop)
  obtain ⟨g₀, hg0⟩ := Option.isSome_iff_exists.mp htop
  obtain ⟨r, hr⟩ := State.topJava?_eq_some.mp hg0
  have hl9 : e.platform.stackLimits (T.setVm s.vm).me = e.platform.stackLimits s.me := X.limits
  have hb9 : (T.setVm s.vm).me.stackBytes = s.me.stackBytes := X.bytes
  refine ⟨X.admits, X.cas, X.clock, hF, ?_, X.hears, X.method, X.code, X.here, X.tail, X.warmed, ?_, ?_, ?_⟩
  · have h := X.room
    have hU : ((T.setVm s.vm).setFrames (.invoking m args :: below)).localsInUse = s.localsInUse := by
      rw [State.localsInUse_invoking hF (meth := meth) (c := c) X.method X.code, State.localsInUse_invoking X.frames X.method X.code]
    simp only [State.hasRoom, Bool.and_eq_true, decide_eq_true_eq] at h ⊢
    obtain ⟨⟨⟨⟨h1, h2, h3, h4, h5, h6⟩, h7⟩, h8⟩, h9⟩ := h
    rw [X.frames, List.length_cons] at h2 h3
    have q1 := X.heapSize
    have q2 := X.used
    simp only [hF, hU, List.length_cons, State.stackLimits_setFrames, State.stackBytes_setFrames, hl9, hb9]
    refine ⟨⟨⟨⟨by omega, by omega, by omega, by omega, by omega, h6⟩, ?_⟩, ?_⟩, X.book⟩
    · show T.heap.size + R'.cells ≤ e.platform.maxCells
      omega
    · show T.slotsUsed + R'.slots ≤ e.platform.maxSlots
      omega
  · rw [State.stackLimits_setFrames]; rfl
  · rw [State.stackBytes_setFrames]; rfl
  · refine ⟨?_, Nat.le_refl _, Nat.le_refl _, ?_, ?_, fun a c9 h9 => ⟨c9, h9, rfl, rfl, fun _ _ => rfl⟩⟩
    · obtain ⟨t, ht, -⟩ := State.frames_cons hr
      show T.setVm s.vm = { ((T.setVm s.vm).setFrames (.invoking m args :: below)).setFrames (T.setVm s.vm).frames with heap := T.heap, slotsUsed := T.slotsUsed }
      rw [State.setFrames_setFrames, State.setFrames_self ht]
      rfl
    · show T.slotsUsed = T.slotsUsed + ((T.heap.toList.drop T.heap.size).map (·.slots.size)).sum
      rw [List.drop_eq_nil_of_le (Nat.le_of_eq Array.length_toList)]
      rfl
    · show ((T.heap.toList.drop T.heap.size).map (·.slots.size)).sum ≤ 0
      rw [List.drop_eq_nil_of_le (Nat.le_of_eq Array.length_toList)]
      exact Nat.le_refl _
/-- 'throw new E()': new; dup; invokespecial; athrow -/
theorem vx_throw0 {cc : ByteArray} {pc : Nat} (hexec : p.tables.exec = Jvm.exec) (hb : c.code = cc) (hl : l.stackTraces = false) {own cls : String} {names : List String} {ik ic mc ms : Nat} {A : Nat → Prop}
    (hown : s.vm.findClass own = some m.cls) (hcls : Bundle.fit cls = true) (hnames : ∀ n ∈ names, Bundle.fit n = true)
    (hk : (Cond.classLink own ik cls).before args s = true) (hini : (Cond.initialized cls).before args s = true) (hat : ∀ w ∈ vx_at0 own ic cls names, w.before args s = true)
    (hgood : ∀ w ∈ Cond.classLink own ik cls :: Cond.initialized cls :: vx_at0 own ic cls names, vx_ot w = true)
    (hU : vx_Zq Bundle.tN "UNASSIGNED_STACK" Bundle.steD A s s.heap) (hN : vx_Zq Bundle.tN "SUPPRESSED_SENTINEL" Bundle.listD A s s.heap) (hS : va_S A s.heap H locs) (hsize : ls.size = c.maxLocals)
    (d0 : decode cc pc = .ok (.new ik, 3)) (d3 : decode cc (pc + 3) = .ok (.dup, 1)) (d4 : decode cc (pc + 4) = .ok (.invokespecial ic, 3)) (d7 : decode cc (pc + 7) = .ok (.athrow, 1))
    (hout : ∀ x ∈ c.exceptionTable.toList, covers x (pc + 7) = false)
    (hRframes : names.length + 3 < R.frames) (hRlocals : (rest.map fun v => v.category).sum + (13 * (names.length + 1) + 42) ≤ R.locals) (hRcells : cells + 1 ≤ R.cells) (hRslots : slots + 6 ≤ R.slots) (hlocks : meth.locks = false)
    (hx : ∀ t : State, s.vm.Alike t.vm → H.size ≤ t.heap.size → (∀ q : Nat, q < H.size → t.heap[q]? = H[q]?) → XC cls s t)
    (hf : ∀ z ∈ locs, free z.base) (hc : cells + 1 ≤ mc) (hs : slots + 6 ≤ ms) :
    W p l e R s m args below meth c H locs cells slots (vx_MQ below Qc XC args s mc ms free) (F0 m pc ls rest) := by
  intro T hT X
  have htr : e.platform.stackTraces = false := (show e.platform.stackTraces = l.stackTraces by rw [X.admits.platform]).trans hl
  have Y := vx_rebase X (R' := { frames := R.frames, locals := R.locals, cells := 1, slots := 6 }) (Nat.le_refl _) (Nat.le_refl _) hRcells hRslots
  obtain ⟨s', hA⟩ : ∃ z, z = (T.setVm s.vm).setFrames (.invoking m args :: below) := ⟨_, rfl⟩
  rw [← hA] at Y
  have hvm : s'.vm = s.vm := by rw [hA]; rfl
  have hhp : s'.heap = H := by rw [hA]; exact hT
  have hW0 : s.WarmedH s'.vm := by rw [hvm]; exact State.WarmedH.refl s
  have hat' : ∀ w ∈ vx_at0 own ic cls names, w.before args s' = true := fun w hw => vx_ot_at hW0 hvm.symm (hgood w (List.mem_cons_of_mem _ (List.mem_cons_of_mem _ hw))) (hat w hw)
  have hk' : (Cond.classLink own ik cls).before args s' = true := vx_ot_at hW0 hvm.symm (hgood _ List.mem_cons_self) hk
  have hini' : (Cond.initialized cls).before args s' = true := vx_ot_at hW0 hvm.symm (hgood _ (List.mem_cons_of_mem _ List.mem_cons_self)) hini
  have hU' : vx_Zq Bundle.tN "UNASSIGNED_STACK" Bundle.steD A s' s'.heap := by rw [hhp]; exact vx_Zq.moved hW0.alike (hU.kept hS.2.1)
  have hN' : vx_Zq Bundle.tN "SUPPRESSED_SENTINEL" Bundle.listD A s' s'.heap := by rw [hhp]; exact vx_Zq.moved hW0.alike (hN.kept hS.2.1)
  have h : ∀ w ∈ Bundle.ownAtoms0 own ic cls names, w.before args s' = true := vx_own hat' (vx_isRefq hU'.1) (vx_isRefq hN'.1) hU'.2.word hN'.2.word
  have hown' : s'.vm.findClass own = some m.cls := by rw [hvm]; exact hown
  have hins : (Cond.instantiable cls 6).before args s' = true := h _ (by simp [Bundle.ownAtoms0])
  obtain ⟨vm₁, cX, kX, hfX, hkX, -, -, X₁, st1⟩ := Y.newCold hexec (own := own) (C := cls) (index := ik) (n := 6) hown' hk' hins hini'
    (g := F0 m pc ls rest) rfl (by rw [hb]; exact d0) (Nat.le_refl _) (Nat.le_refl _)
  generalize hT1 : (T.setVm vm₁).pushCell { cls := cX, slots := kX.instanceTypes.map defaultValue, vm := .none } = T1 at X₁ st1
  have hcat : (Value.ref T.heap.size).category = 1 := rfl
  have hcellA : T1.heap[T.heap.size]? = some (freshCell cX kX) := by rw [← hT1]; exact State.heap_pushCell_size _ _
  have d3' : decode c.code (pc + 3) = .ok (.dup, 1) := by rw [hb]; exact d3
  obtain ⟨U, hsteps, hrun, hend, hW, hsame, ce, hce, hO⟩ := X₁.ctorThrow0 hexec htr (own := own) (cls := cls) (names := names) (ic := ic) hown' hcls hnames h (fun x hx => nomatch hx) hfX hkX hcellA (by rw [hhp, hT]; exact Nat.le_refl _)
    (g := { method := m, pc := pc + 4, locals := ls, stack := .ref T.heap.size :: .ref T.heap.size :: rest, locked := none }) rfl hsize rfl rfl (rest := rest) rfl
    (by rw [hb]; exact d4) (by rw [hb]; exact d7) hout hRframes (by simp only [List.map_cons, List.sum_cons, hcat]; omega) hlocks
  obtain ⟨f1, f2⟩ := vx_frame hsame
  rw [hhp] at f1 f2
  have hWs : s.WarmedH U.vm := State.WarmedH.trans hW0 hW
  have hcl : s.vm.findClass cls = some ce.cls := by
    have h9 := hO.cls
    rw [hvm] at h9
    exact h9
  have hall : s.sameButNew ({ U with vm := s.vm } : State) locs mc ms := by
    subst hA
    obtain ⟨e1, e2⟩ := hsame
    rw [State.setFrames_setFrames] at e1
    have h2 : (T.setVm s.vm).sameButNew ({ U with vm := s.vm } : State) [] (0 + 1) (0 + 6) := ⟨e1, e2⟩
    have h3 := X.same.trans h2
    rw [List.append_nil] at h3
    exact h3.mono hc hs
  refine ⟨U, ?_, .threw T.heap.size, hrun, hend, Or.inr ⟨T.heap.size, rfl, cls, ce, locs, hx U hWs.alike f1 (fun q hq => f2 q hq (fun z hz => nomatch hz)), hce, hO.vm, hcl, hWs, hall, hf⟩⟩
  refine st1 _ ?_
  show Steps p.tables e below (T1.setTop { method := m, pc := pc + 3, locals := ls, stack := .ref T.heap.size :: rest, locked := none }) _
  jvm_step X₁.here [X₁.here.top, hexec, d3', Value.category]
  exact hsteps
/-- 'throw new E("text")': new; dup; ldc; invokespecial; athrow -/
theorem vx_throwS {cc : ByteArray} {pc : Nat} (hexec : p.tables.exec = Jvm.exec) (hb : c.code = cc) (hl : l.stackTraces = false) {own cls text : String} {names : List String} {ik is ic mc ms sa : Nat} {A : Nat → Prop}
    (hown : s.vm.findClass own = some m.cls) (hcls : Bundle.fit cls = true) (hnames : ∀ n ∈ names, Bundle.fit n = true)
    (hk : (Cond.classLink own ik cls).before args s = true) (hini : (Cond.initialized cls).before args s = true) (hstr : vk_R own is text sa s) (hat : ∀ w ∈ vx_atS own ic cls names, w.before args s = true)
    (hgood : ∀ w ∈ Cond.classLink own ik cls :: Cond.initialized cls :: vx_atS own ic cls names, vx_ot w = true)
    (hU : vx_Zq Bundle.tN "UNASSIGNED_STACK" Bundle.steD A s s.heap) (hN : vx_Zq Bundle.tN "SUPPRESSED_SENTINEL" Bundle.listD A s s.heap) (hS : va_S A s.heap H locs) (hsize : ls.size = c.maxLocals)
    (d0 : decode cc pc = .ok (.new ik, 3)) (d3 : decode cc (pc + 3) = .ok (.dup, 1)) (d4 : decode cc (pc + 4) = .ok (.ldc is, 2)) (d6 : decode cc (pc + 6) = .ok (.invokespecial ic, 3)) (d9 : decode cc (pc + 9) = .ok (.athrow, 1))
    (hout : ∀ x ∈ c.exceptionTable.toList, covers x (pc + 9) = false)
    (hRframes : names.length + 3 < R.frames) (hRlocals : (rest.map fun v => v.category).sum + (13 * (names.length + 1) + 43) ≤ R.locals) (hRcells : cells + 1 ≤ R.cells) (hRslots : slots + 6 ≤ R.slots) (hlocks : meth.locks = false)
    (hx : ∀ t : State, s.vm.Alike t.vm → H.size ≤ t.heap.size → (∀ q : Nat, q < H.size → t.heap[q]? = H[q]?) → XC cls s t)
    (hf : ∀ z ∈ locs, free z.base) (hc : cells + 1 ≤ mc) (hs : slots + 6 ≤ ms) :
    W p l e R s m args below meth c H locs cells slots (vx_MQ below Qc XC args s mc ms free) (F0 m pc ls rest) := by
  intro T hT X
  have htr : e.platform.stackTraces = false := (show e.platform.stackTraces = l.stackTraces by rw [X.admits.platform]).trans hl
  have Y := vx_rebase X (R' := { frames := R.frames, locals := R.locals, cells := 1, slots := 6 }) (Nat.le_refl _) (Nat.le_refl _) hRcells hRslots
  obtain ⟨s', hA⟩ : ∃ z, z = (T.setVm s.vm).setFrames (.invoking m args :: below) := ⟨_, rfl⟩
  rw [← hA] at Y
  have hvm : s'.vm = s.vm := by rw [hA]; rfl
  have hhp : s'.heap = H := by rw [hA]; exact hT
  have hW0 : s.WarmedH s'.vm := by rw [hvm]; exact State.WarmedH.refl s
  have hat' : ∀ w ∈ vx_atS own ic cls names, w.before args s' = true := fun w hw => vx_ot_at hW0 hvm.symm (hgood w (List.mem_cons_of_mem _ (List.mem_cons_of_mem _ hw))) (hat w hw)
  have hk' : (Cond.classLink own ik cls).before args s' = true := vx_ot_at hW0 hvm.symm (hgood _ List.mem_cons_self) hk
  have hini' : (Cond.initialized cls).before args s' = true := vx_ot_at hW0 hvm.symm (hgood _ (List.mem_cons_of_mem _ List.mem_cons_self)) hini
  have hU' : vx_Zq Bundle.tN "UNASSIGNED_STACK" Bundle.steD A s' s'.heap := by rw [hhp]; exact vx_Zq.moved hW0.alike (hU.kept hS.2.1)
  have hN' : vx_Zq Bundle.tN "SUPPRESSED_SENTINEL" Bundle.listD A s' s'.heap := by rw [hhp]; exact vx_Zq.moved hW0.alike (hN.kept hS.2.1)
  have h : ∀ w ∈ Bundle.ownAtoms own ic cls names, w.before args s' = true := vx_own hat' (vx_isRefq hU'.1) (vx_isRefq hN'.1) hU'.2.word hN'.2.word
  have hown' : s'.vm.findClass own = some m.cls := by rw [hvm]; exact hown
  have hins : (Cond.instantiable cls 6).before args s' = true := h _ (by simp [Bundle.ownAtoms])
  obtain ⟨vm₁, cX, kX, hfX, hkX, -, -, X₁, st1⟩ := Y.newCold hexec (own := own) (C := cls) (index := ik) (n := 6) hown' hk' hins hini'
    (g := F0 m pc ls rest) rfl (by rw [hb]; exact d0) (Nat.le_refl _) (Nat.le_refl _)
  generalize hT1 : (T.setVm vm₁).pushCell { cls := cX, slots := kX.instanceTypes.map defaultValue, vm := .none } = T1 at X₁ st1
  have hcat : (Value.ref T.heap.size).category = 1 := rfl
  have hcellA : T1.heap[T.heap.size]? = some (freshCell cX kX) := by rw [← hT1]; exact State.heap_pushCell_size _ _
  have d3' : decode c.code (pc + 3) = .ok (.dup, 1) := by rw [hb]; exact d3
  have d4' : decode c.code (pc + 4) = .ok (.ldc is, 2) := by rw [hb]; exact d4
  have hstr' : vk_R own is text sa s' := vk_R.warm hW0 hstr
  obtain ⟨U, hsteps, hrun, hend, hW, hsame, ce, hce, hO⟩ := X₁.ctorThrowS hexec htr (own := own) (cls := cls) (names := names) (ic := ic) hown' hcls hnames h (fun x hx => nomatch hx) hfX hkX hcellA (by rw [hhp, hT]; exact Nat.le_refl _) (msg := .ref sa) rfl
    (g := { method := m, pc := pc + 6, locals := ls, stack := .ref sa :: .ref T.heap.size :: .ref T.heap.size :: rest, locked := none }) rfl hsize rfl rfl (rest := rest) rfl
    (by rw [hb]; exact d6) (by rw [hb]; exact d9) hout hRframes (by simp only [List.map_cons, List.sum_cons, hcat]; omega) hlocks
  obtain ⟨f1, f2⟩ := vx_frame hsame
  rw [hhp] at f1 f2
  have hWs : s.WarmedH U.vm := State.WarmedH.trans hW0 hW
  have hcl : s.vm.findClass cls = some ce.cls := by
    have h9 := hO.cls
    rw [hvm] at h9
    exact h9
  have hall : s.sameButNew ({ U with vm := s.vm } : State) locs mc ms := by
    subst hA
    obtain ⟨e1, e2⟩ := hsame
    rw [State.setFrames_setFrames] at e1
    have h2 : (T.setVm s.vm).sameButNew ({ U with vm := s.vm } : State) [] (0 + 1) (0 + 6) := ⟨e1, e2⟩
    have h3 := X.same.trans h2
    rw [List.append_nil] at h3
    exact h3.mono hc hs
  refine ⟨U, ?_, .threw T.heap.size, hrun, hend, Or.inr ⟨T.heap.size, rfl, cls, ce, locs, hx U hWs.alike f1 (fun q hq => f2 q hq (fun z hz => nomatch hz)), hce, hO.vm, hcl, hWs, hall, hf⟩⟩
  refine st1 _ ?_
  show Steps p.tables e below (T1.setTop { method := m, pc := pc + 3, locals := ls, stack := .ref T.heap.size :: rest, locked := none }) _
  jvm_step X₁.here [X₁.here.top, hexec, d3', Value.category]
  exact X₁.ldcString hexec (own := own) (text := text) (index := is) (a := sa) hown' hstr'.1 hstr'.2
    (g := { method := m, pc := pc + 4, locals := ls, stack := .ref T.heap.size :: .ref T.heap.size :: rest, locked := none }) rfl d4' _ hsteps
/-- 'throw new E("text")', the text by a wide index -/
theorem vx_throwSW {cc : ByteArray} {pc : Nat} (hexec : p.tables.exec = Jvm.exec) (hb : c.code = cc) (hl : l.stackTraces = false) {own cls text : String} {names : List String} {ik is ic mc ms sa : Nat} {A : Nat → Prop}
    (hown : s.vm.findClass own = some m.cls) (hcls : Bundle.fit cls = true) (hnames : ∀ n ∈ names, Bundle.fit n = true)
    (hk : (Cond.classLink own ik cls).before args s = true) (hini : (Cond.initialized cls).before args s = true) (hstr : vk_R own is text sa s) (hat : ∀ w ∈ vx_atS own ic cls names, w.before args s = true)
    (hgood : ∀ w ∈ Cond.classLink own ik cls :: Cond.initialized cls :: vx_atS own ic cls names, vx_ot w = true)
    (hU : vx_Zq Bundle.tN "UNASSIGNED_STACK" Bundle.steD A s s.heap) (hN : vx_Zq Bundle.tN "SUPPRESSED_SENTINEL" Bundle.listD A s s.heap) (hS : va_S A s.heap H locs) (hsize : ls.size = c.maxLocals)
    (d0 : decode cc pc = .ok (.new ik, 3)) (d3 : decode cc (pc + 3) = .ok (.dup, 1)) (d4 : decode cc (pc + 4) = .ok (.ldc_w is, 3)) (d7 : decode cc (pc + 7) = .ok (.invokespecial ic, 3)) (d10 : decode cc (pc + 10) = .ok (.athrow, 1))
    (hout : ∀ x ∈ c.exceptionTable.toList, covers x (pc + 10) = false)
    (hRframes : names.length + 3 < R.frames) (hRlocals : (rest.map fun v => v.category).sum + (13 * (names.length + 1) + 43) ≤ R.locals) (hRcells : cells + 1 ≤ R.cells) (hRslots : slots + 6 ≤ R.slots) (hlocks : meth.locks = false)
    (hx : ∀ t : State, s.vm.Alike t.vm → H.size ≤ t.heap.size → (∀ q : Nat, q < H.size → t.heap[q]? = H[q]?) → XC cls s t)
    (hf : ∀ z ∈ locs, free z.base) (hc : cells + 1 ≤ mc) (hs : slots + 6 ≤ ms) :
    W p l e R s m args below meth c H locs cells slots (vx_MQ below Qc XC args s mc ms free) (F0 m pc ls rest) := by
  intro T hT X
  have htr : e.platform.stackTraces = false := (show e.platform.stackTraces = l.stackTraces by rw [X.admits.platform]).trans hl
  have Y := vx_rebase X (R' := { frames := R.frames, locals := R.locals, cells := 1, slots := 6 }) (Nat.le_refl _) (Nat.le_refl _) hRcells hRslots
  obtain ⟨s', hA⟩ : ∃ z, z = (T.setVm s.vm).setFrames (.invoking m args :: below) := ⟨_, rfl⟩
  rw [← hA] at Y
  have hvm : s'.vm = s.vm := by rw [hA]; rfl
  have hhp : s'.heap = H := by rw [hA]; exact hT
  have hW0 : s.WarmedH s'.vm := by rw [hvm]; exact State.WarmedH.refl s
  have hat' : ∀ w ∈ vx_atS own ic cls names, w.before args s' = true := fun w hw => vx_ot_at hW0 hvm.symm (hgood w (List.mem_cons_of_mem _ (List.mem_cons_of_mem _ hw))) (hat w hw)
  have hk' : (Cond.classLink own ik cls).before args s' = true := vx_ot_at hW0 hvm.symm (hgood _ List.mem_cons_self) hk
  have hini' : (Cond.initialized cls).before args s' = true := vx_ot_at hW0 hvm.symm (hgood _ (List.mem_cons_of_mem _ List.mem_cons_self)) hini
  have hU' : vx_Zq Bundle.tN "UNASSIGNED_STACK" Bundle.steD A s' s'.heap := by rw [hhp]; exact vx_Zq.moved hW0.alike (hU.kept hS.2.1)
  have hN' : vx_Zq Bundle.tN "SUPPRESSED_SENTINEL" Bundle.listD A s' s'.heap := by rw [hhp]; exact vx_Zq.moved hW0.alike (hN.kept hS.2.1)
  have h : ∀ w ∈ Bundle.ownAtoms own ic cls names, w.before args s' = true := vx_own hat' (vx_isRefq hU'.1) (vx_isRefq hN'.1) hU'.2.word hN'.2.word
  have hown' : s'.vm.findClass own = some m.cls := by rw [hvm]; exact hown
  have hins : (Cond.instantiable cls 6).before args s' = true := h _ (by simp [Bundle.ownAtoms])
  obtain ⟨vm₁, cX, kX, hfX, hkX, -, -, X₁, st1⟩ := Y.newCold hexec (own := own) (C := cls) (index := ik) (n := 6) hown' hk' hins hini'
    (g := F0 m pc ls rest) rfl (by rw [hb]; exact d0) (Nat.le_refl _) (Nat.le_refl _)
  generalize hT1 : (T.setVm vm₁).pushCell { cls := cX, slots := kX.instanceTypes.map defaultValue, vm := .none } = T1 at X₁ st1
  have hcat : (Value.ref T.heap.size).category = 1 := rfl
  have hcellA : T1.heap[T.heap.size]? = some (freshCell cX kX) := by rw [← hT1]; exact State.heap_pushCell_size _ _
  have d3' : decode c.code (pc + 3) = .ok (.dup, 1) := by rw [hb]; exact d3
  have d4' : decode c.code (pc + 4) = .ok (.ldc_w is, 3) := by rw [hb]; exact d4
  have hstr' : vk_R own is text sa s' := vk_R.warm hW0 hstr
  obtain ⟨U, hsteps, hrun, hend, hW, hsame, ce, hce, hO⟩ := X₁.ctorThrowS hexec htr (own := own) (cls := cls) (names := names) (ic := ic) hown' hcls hnames h (fun x hx => nomatch hx) hfX hkX hcellA (by rw [hhp, hT]; exact Nat.le_refl _) (msg := .ref sa) rfl
    (g := { method := m, pc := pc + 7, locals := ls, stack := .ref sa :: .ref T.heap.size :: .ref T.heap.size :: rest, locked := none }) rfl hsize rfl rfl (rest := rest) rfl
    (by rw [hb]; exact d7) (by rw [hb]; exact d10) hout hRframes (by simp only [List.map_cons, List.sum_cons, hcat]; omega) hlocks
  obtain ⟨f1, f2⟩ := vx_frame hsame
  rw [hhp] at f1 f2
  have hWs : s.WarmedH U.vm := State.WarmedH.trans hW0 hW
  have hcl : s.vm.findClass cls = some ce.cls := by
    have h9 := hO.cls
    rw [hvm] at h9
    exact h9
  have hall : s.sameButNew ({ U with vm := s.vm } : State) locs mc ms := by
    subst hA
    obtain ⟨e1, e2⟩ := hsame
    rw [State.setFrames_setFrames] at e1
    have h2 : (T.setVm s.vm).sameButNew ({ U with vm := s.vm } : State) [] (0 + 1) (0 + 6) := ⟨e1, e2⟩
    have h3 := X.same.trans h2
    rw [List.append_nil] at h3
    exact h3.mono hc hs
  refine ⟨U, ?_, .threw T.heap.size, hrun, hend, Or.inr ⟨T.heap.size, rfl, cls, ce, locs, hx U hWs.alike f1 (fun q hq => f2 q hq (fun z hz => nomatch hz)), hce, hO.vm, hcl, hWs, hall, hf⟩⟩
  refine st1 _ ?_
  show Steps p.tables e below (T1.setTop { method := m, pc := pc + 3, locals := ls, stack := .ref T.heap.size :: rest, locked := none }) _
  jvm_step X₁.here [X₁.here.top, hexec, d3', Value.category]
  exact X₁.ldcStringW hexec (own := own) (text := text) (index := is) (a := sa) hown' hstr'.1 hstr'.2
    (g := { method := m, pc := pc + 4, locals := ls, stack := .ref T.heap.size :: .ref T.heap.size :: rest, locked := none }) rfl d4' _ hsteps
end Ends
section Bodies
variable {l : Launch}
theorem vx_ofW {y : MethodName} {ws ws' : List Cond} {rm : Room} {Pc : Array Value → State → Prop} {Qc : Array Value → State → Outcome → State → Prop} {XC : String → State → State → Prop} {mc ms : Nat} {free : Addr → Prop} {cc : ByteArray} {maxL : Nat} {ret : Option FieldType}
    (hy : plainName y.cls = true) (hw : ws = Cond.code y cc maxL ret :: ws')
    (body : ∀ p e s m args below meth c s₁, BodyLoose p l y (headSpec ws rm) cc maxL ret e s m args below meth c s₁ → c.maxLocals = maxL → (∀ x ∈ c.exceptionTable.toList, False) → Pc args s →
      W p l e (headSpec ws rm).room s m args below meth c s.heap [] 0 0 (vx_MQ below Qc XC args s mc ms free) (entryFrame m args maxL)) : vx_Met l y ws rm Pc Qc XC mc ms free := by
  refine MetFree.of_bodyS (code := cc) (maxLocals := maxL) (ret := ret) hy ?_ ?_
  · intro args s m h hn
    obtain ⟨meth, c, h1, h2, h3, h4, h5, h6, -, -⟩ := Cond.code_spec hn (atoms_spec (ws := ws) h _ (by rw [hw]; exact List.mem_cons_self))
    exact ⟨meth, c, h1, h2, h3, h4, h5, h6⟩
  · intro p e s m args below meth c s₁ B hml hP _
    have hh0 : s₁.heap = s.heap := by rw [B.state]; rfl
    have ht : ∀ x ∈ c.exceptionTable.toList, False := by
      obtain ⟨meth9, c9, h1, h2, -, -, -, -, h7, -⟩ := Cond.code_spec B.named (atoms_spec (ws := ws) B.pre _ (by rw [hw]; exact List.mem_cons_self))
      cases Option.some.inj (h1.symm.trans B.method)
      cases Option.some.inj (h2.symm.trans (Stand.of_body B).code)
      intro x hx
      rw [Array.isEmpty_iff.mp h7] at hx
      cases hx
    obtain ⟨t, a1, o, b1, b2, b3⟩ := body p e s m args below meth c s₁ B hml ht hP s₁ hh0 (Stand.of_body B)
    exact ⟨t, o, a1, b1, b2, b3⟩
/-- the table of a body with handlers -/
theorem vx_table {p : Program} {x y : MethodName} {S : Spec} {cc bytes : ByteArray} {maxL maxL' : Nat} {ret ret' : Option FieldType} {e : Env} {s s₁ : State} {m : MethodId} {args : Array Value} {below : List Frame} {meth : Method} {c : Code} {hh : List (Nat × Nat × Nat × Nat)}
    (B : BodyLoose p l y S cc maxL ret e s m args below meth c s₁) (h : (Cond.codeWith y bytes maxL' ret' hh).before args s = true) : c.exceptionTable.toList = tableOf hh := by
  obtain ⟨m9, meth9, c9, hn9, h1, h2, -, -, h6, -⟩ := Cond.codeWith_spec h
  cases Option.some.inj (hn9.symm.trans B.named)
  cases Option.some.inj (h1.symm.trans B.method)
  cases Option.some.inj (h2.symm.trans (Stand.of_body B).code)
  rw [← h6, table_eq]
end Bodies
end VXA
/-! ===== END ===== -/
/-! ===== BEGIN a static call of a method with an exception table ===== -/
section VXS
variable {p : Program} {l : Launch} {e : Env} {R : Room} {s : State} {m : MethodId} {args : Array Value} {below : List Frame} {meth : Method} {c : Code} {T : State} {H : Heap} {locs : List Loc} {cells slots : Nat}
abbrev vx_CSW (R : Room) (s : State) (args : Array Value) (own : String) (index : Nat) (y : MethodName) (bytes : ByteArray) (maxL : Nat) (ret : Option FieldType) (hh : List (Nat × Nat × Nat × Nat)) (ws : List Cond) (rm : Room) (mc ms n : Nat) : Prop :=
  (rm.cells = mc ∧ rm.slots = ms ∧ rm.frames + 1 ≤ R.frames ∧ 8 + (maxL + 11) + rm.locals ≤ R.locals ∧ (∀ w ∈ ws, ∀ (a' : Array Value) (U : State), s.WarmedH U.vm → w.before a' U = true) ∧ Cond.codeWith y bytes maxL ret hh ∈ ws) ∧
  (Cond.codeWith y bytes maxL ret hh).before args s = true ∧ (Cond.initialized y.cls).before args s = true ∧ (y.cls ≠ "java/lang/invoke/MethodHandle" ∧ y.cls ≠ "java/lang/invoke/VarHandle") ∧
  (∀ sig, parseMethodDescriptor y.desc = some sig → n = sig.parameters.length) ∧ (Cond.methodLink own index y).before args s = true ∧ (Cond.static y).before args s = true
theorem vx_cwSW {own : String} {index maxL mc ms : Nat} {y : MethodName} {bytes : ByteArray} {ret : Option FieldType} {hh : List (Nat × Nat × Nat × Nat)} {Ts ws ws' : List Cond} {rm : Room} (n : Nat) (ht : ∀ w ∈ Ts, w.before args s = true) (hT : GoodIn Ts (va_wsS own index y ws)) (hw : ws = Cond.codeWith y bytes maxL ret hh :: ws') (hrc : rm.cells = mc) (hrs : rm.slots = ms)
    (hd : y.cls ≠ "java/lang/invoke/MethodHandle" ∧ y.cls ≠ "java/lang/invoke/VarHandle" ∧ (parseMethodDescriptor y.desc).map (fun d => d.parameters.length) = some n) (hR : rm.frames + 1 ≤ R.frames ∧ 8 + (maxL + 11) + rm.locals ≤ R.locals) :
    vx_CSW R s args own index y bytes maxL ret hh ws rm mc ms n := by
  have ok : ∀ w ∈ va_wsS own index y ws, w.before args s = true := fun w h => ht w (hT w h).1
  have hG : GoodIn Ts ws := fun w h => hT w (by unfold va_wsS; exact List.mem_append_right _ h)
  have hc : Cond.codeWith y bytes maxL ret hh ∈ ws := by rw [hw]; exact List.mem_cons_self
  refine ⟨⟨hrc, hrs, hR.1, hR.2, pay_in ht hG, hc⟩, ht _ (hG _ hc).1, ok _ (by simp [va_wsS]), ⟨hd.1, hd.2.1⟩, fun sig h => ?_, ok _ (by simp [va_wsS]), ok _ (by simp [va_wsS])⟩
  have h2 := hd.2.2
  rw [h] at h2
  exact (Option.some.inj h2).symm
theorem vx_callSW (X : Stand p l e R s m args below meth c T locs cells slots) (hexec : p.tables.exec = Jvm.exec) {own : String} {index : Nat} {y : MethodName} {bytes : ByteArray} {maxL : Nat} {ret : Option FieldType} {hh : List (Nat × Nat × Nat × Nat)}
    (hown : s.vm.findClass own = some m.cls) (hlink : (Cond.methodLink own index y).before args s = true) (hstat : (Cond.static y).before args s = true) (hinit : (Cond.initialized y.cls).before args s = true)
    (hcode : (Cond.codeWith y bytes maxL ret hh).before args s = true) (hy : y.cls ≠ "java/lang/invoke/MethodHandle" ∧ y.cls ≠ "java/lang/invoke/VarHandle")
    {W9 : Nat} {Pre : Pt → Array Value → Prop} {Post : Pt → Array Value → Option Value → Pt → Prop} (hK : Back l R p e below s args y 3 W9 Pre Post)
    {g : JFrame} (hg : g.method = m) (hsize : g.locals.size = c.maxLocals) {argsL rest : List Value} (hlen : ∀ sig, parseMethodDescriptor y.desc = some sig → argsL.length = sig.parameters.length)
    (hstack : g.stack = argsL.reverse ++ rest) (hW : 2 * g.monitorRoom + (rest.map fun v => v.category).sum ≤ W9) (hdg : decode c.code g.pc = .ok (.invokestatic index, 3))
    (hpre : ∀ vm₁, s.WarmedH vm₁ → Pre ⟨T.setVm vm₁, locs, cells, slots⟩ argsL.toArray) :
    ∃ (v : Option Value) (vm₁ : Vm) (B : Pt), s.WarmedH vm₁ ∧ Stand p l e R s m args below meth c B.U B.locs B.cells B.slots ∧ Post ⟨T.setVm vm₁, locs, cells, slots⟩ argsL.toArray v B ∧
      ∀ target, Steps p.tables e below (B.U.setTop { g with pc := g.pc + 3, stack := v.toList ++ rest }) target → Steps p.tables e below (T.setTop g) target := by
  obtain ⟨mk, methM, cM, hnamed, hmethM, -, -, -, -, -, -, hsigM⟩ := Cond.codeWith_spec hcode
  have hstatic : methM.isStatic = true := Cond.static_spec hnamed hmethM hstat
  obtain ⟨kP, hkP, -⟩ := className_of_methodNamed hnamed
  have hinitP : kP.init = .initialized := Cond.initialized_spec (findClass_of_methodNamed hnamed) hkP hinit
  obtain ⟨vm₁, X₁, hstep₁⟩ := X.invokestatic hexec hown hlink hnamed hmethM hstatic hkP hinitP hy (g := g) hg (argsL := argsL) (rest := rest) (hlen _ hsigM) hstack hdg
  obtain ⟨v, B, X', hpost, hsteps⟩ := hK m meth c ⟨T.setVm vm₁, locs, cells, slots⟩ { g with stack := rest } (.invokestatic index) mk argsL.toArray X₁ hg hsize hdg hW (X₁.named hnamed) (hpre vm₁ X₁.warmed)
  exact ⟨v, vm₁, B, X₁.warmed, X', hpost, fun target h => hstep₁ _ fun acts => by rw [doInvoke_state]; exact hsteps.trans h⟩
theorem vx_runSW {y : MethodName} {bytes cc : ByteArray} {maxL nL mc ms n index : Nat} {ret : Option FieldType} {hh : List (Nat × Nat × Nat × Nat)} {ws : List Cond} {rm : Room} {Pc : Array Value → State → Prop} {Qc : Array Value → State → Outcome → State → Prop} {free : Addr → Prop} {Ts : List Cond} {own : String} {As rest : List Value} {g : JFrame}
    (S : CallFix p m c cc nL s args Ts own) (hM : Met l y ws rm Pc Qc mc ms free) (cw : vx_CSW R s args own index y bytes maxL ret hh ws rm mc ms n) (hp : PreS s H Pc As)
    (hg : g.method = m) (hn : As.length = n) (hsize : g.locals.size = nL) (hstack : g.stack = As.reverse ++ rest) (hW : 2 * g.monitorRoom + (rest.map fun v => v.category).sum ≤ 8) (hdg : decode cc g.pc = .ok (.invokestatic index, 3)) (hf : cells + mc ≤ R.cells ∧ slots + ms ≤ R.slots) :
    va_Run p l e R s m args below meth c H locs cells slots mc ms g rest (Qc As.toArray) (free) := by
  obtain ⟨⟨hrc, hrs, hfr, hlo, hws, hcw⟩, hcode, hini, hy, hlen, hl, hstt⟩ := cw
  have hK : Back l R p e below s args y 3 8 (PreOf R mc ms Pc) (PostOf Qc mc ms free) := va_backW (hh := hh) (bytes := bytes) (maxL := maxL) (ret := ret) hM hp.1 hrc hrs hfr hlo hws hcw (fun a' U hW => word_at hW (Or.inl (by first | rfl | simp [Cond.onTables, Cond.keeps, Cond.steady])) hini)
  obtain ⟨hx, hb, hml, ho, -⟩ := S
  intro T hT X
  obtain ⟨v, vm₁, ⟨U', l2, c2, s2⟩, hW₁, X', ⟨g', mk, t, L, e1, e2, hq, h1, hL, h2, h3⟩, st⟩ := vx_callSW X hx (hh := hh) (bytes := bytes) (maxL := maxL) (ret := ret) ho hl hstt hini hcode hy hK hg (hsize.trans hml.symm) (argsL := As) (rest := rest) (fun sig h => hn.trans (hlen sig h)) hstack hW (by rw [hb]; exact hdg)
    (fun vm₁ hW₁ => ⟨hf.1, hf.2, hp.2 (T.setVm vm₁) hT hW₁⟩)
  dsimp only [Pt.U, Pt.locs, Pt.cells, Pt.slots] at X' e1 e2 h1 h2 h3 st
  subst h1; subst h2; subst h3
  exact ⟨v, (T.setVm vm₁).calling g' mk As.toArray, t, U', L, hT, X', hL, e1, e2, hq, st⟩
/-- not caught here, past rows that name other classes: it goes on to the caller -/
theorem vx_outP {p : Program} {l : Launch} {e : Env} {R : Room} {s : State} {m : MethodId} {args : Array Value} {below : List Frame} {meth : Method} {c : Code} {H : Heap} {locs : List Loc} {cells slots : Nat} {free : Addr → Prop} {ls : Array Slot} {rest : List Value} {Qc : Array Value → State → Outcome → State → Prop} {XC : String → State → State → Prop}
    {pc : Nat} {own E : String} {ce : Cell} {q : Addr} {mc ms : Nat} (hown : s.vm.findClass own = some m.cls) (hlocks : meth.locks = false)
    (hpass : ∀ z ∈ c.exceptionTable.toList, covers z pc = false ∨ (z.catchType ≠ 0 ∧ ∃ nm : String, (Cond.classLink own z.catchType nm).before args s = true ∧ va_Nc E nm s)) (hcell : H[q]? = some ce) (hv : ce.vm = .none) (hcl : s.vm.findClass E = some ce.cls)
    (hx : ∀ t : State, t.heap = H → s.vm.Alike t.vm → XC E s t) (hf : ∀ z ∈ locs, free z.base) (hc : cells ≤ mc) (hs : slots ≤ ms) :
    vx_W p l e R s m args below meth c H locs cells slots (vx_MQ below Qc XC args s mc ms free) (F0 m pc ls rest) q := by
  intro T hT X
  have hpl : e.platform.magicAccessors = ({} : Platform).magicAccessors := by rw [X.admits.platform]
  obtain ⟨vm', hW', X', st⟩ := X.outThrough hlocks q (g := F0 m pc ls rest) rfl rfl rfl (cell := ce) (by rw [hT]; exact hcell) (by rw [hv]; rfl)
    (by obtain ⟨k9, h9, -⟩ := Vm.findClass_spec hcl; exact ⟨k9, h9⟩) (fun z hz => by
      rcases hpass z hz with h | ⟨hz0, nm, hl1, hn1⟩
      · exact Or.inl h
      · obtain ⟨c6, hc6, hcl6⟩ := Cond.classLink_spec hown hl1 e.platform hpl
        obtain ⟨a8, b8, h1, h2, h3⟩ := hn1
        cases Option.some.inj (h1.symm.trans hcl)
        cases Option.some.inj (h2.symm.trans hc6)
        exact Or.inr ⟨hz0, _, hcl6, h3⟩)
  obtain ⟨g₀, hfr⟩ := X'.frames_eq
  have hcell9 : ((T.setVm vm').setFrames (.throwing q :: below)).heap[q]? = some ce := by
    show T.heap[q]? = some ce
    rw [hT]; exact hcell
  have hend : Ended ((T.setVm vm').setFrames (.throwing q :: below)) below (.threw q) := State.frames_setFrames _ (State.cur_lt_of_frames hfr)
  refine ⟨(T.setVm vm').setFrames (.throwing q :: below), ?_, .threw q, X'.here.running, hend, Or.inr ⟨q, rfl, E, ce, locs, hx _ hT (X'.ends _).1.alike, hcell9, hv, hcl, (X'.ends _).1, (X'.ends _).2.mono hc hs, hf⟩⟩
  rw [X.pushThrowing_eq]
  exact st
/-- a thing of a world lies in the heap -/
theorem vx_lt {D : va_G} {cl : List vw_C} {ws : va_W} {H1 : Heap} (h : va_P D cl ws H1) {k : Nat} {q : Nat × va_E} (hk : ws[k]? = some q) : q.1 < H1.size := (h k q hk).lt
end VXS
/-! ===== END ===== -/
/-! ===== BEGIN methods with a table of their own: called by a name, returning or throwing ===== -/
section VXH
/-! vx_backW, vx_callVX, vx_callSX, vx_callVW, vx_runVW, vx_runVX, vx_runSX, vx_ofWH follow the same proofs as their sisters above (Free/Laws.lean, Shelf42/LK1.lean); vx_outP calls Shelf42/NT130.lean (outThrough). -/
section
variable {l : Launch} {R : Room} {p : Program} {e : Env} {below : List Frame} {s : State} {sargs : Array Value} {y : MethodName} {len W9 : Nat}
theorem vx_backW {ws : List Cond} {rm : Room} {Pc : Array Value → State → Prop} {Qc : Array Value → State → Outcome → State → Prop} {XC : String → State → State → Prop} {mc ms : Nat} {free : Addr → Prop} {bytes : ByteArray} {maxL : Nat} {ret : Option FieldType} {hh : List (Nat × Nat × Nat × Nat)}
    (hM : vx_Met l y ws rm Pc Qc XC mc ms free) (hblind : FrameBlind Pc) (hrc : rm.cells = mc) (hrs : rm.slots = ms)
    (hframes : rm.frames + 1 ≤ R.frames) (hlocals : W9 + (maxL + 11) + rm.locals ≤ R.locals)
    (hws : ∀ w ∈ ws, ∀ a' U, s.WarmedH U.vm → w.before a' U = true) (hcode : Cond.codeWith y bytes maxL ret hh ∈ ws) (hinit : ∀ a' U, s.WarmedH U.vm → (Cond.initialized y.cls).before a' U = true) :
    vx_Back l R p e below s sargs y len W9 (PreOf R mc ms Pc) (PostOf Qc mc ms free) (vx_Post XC mc ms free) := by
  intro m meth c A g ig mk a X hg hsize hdg hW hn hp
  have h1 : (headSpec ws rm).pre.before a A.U = true := atoms_intro fun w hw => hws w hw _ _ X.warmed
  have h2 : (Cond.codeWith y bytes maxL ret hh).before a A.U = true := hws _ hcode _ _ X.warmed
  have h3 : (Cond.initialized y.cls).before a A.U = true := hinit _ _ X.warmed
  have h4 : A.cells + (headSpec ws rm).room.cells ≤ R.cells := by rw [show (headSpec ws rm).room.cells = mc from hrc]; exact hp.1
  have h5 : A.slots + (headSpec ws rm).room.slots ≤ R.slots := by rw [show (headSpec ws rm).room.slots = ms from hrs]; exact hp.2.1
  have hPc : Pc a (A.U.calling g mk a) := hblind _ _ _ _ hp.2.2
  obtain ⟨U, Ls, c0, s0⟩ := A
  dsimp only [Pt.U, Pt.locs, Pt.cells, Pt.slots] at h1 h2 h3 h4 h5 X hn hPc ⊢
  obtain ⟨m9, methY, cY, hn9, hmY, hcY, -, hlY, -⟩ := Cond.codeWith_spec h2
  cases Option.some.inj (hn9.symm.trans hn)
  obtain ⟨kY, hkY, -⟩ := className_of_methodNamed hn
  have hinitY : kY.init = .initialized := Cond.initialized_spec (findClass_of_methodNamed hn) hkY h3
  have h : At U g.method c below := by rw [hg]; exact X.here
  have hlocals9 : W9 + (maxL + 11) + (headSpec ws rm).room.locals ≤ R.locals := hlocals
  have happ : (headSpec ws rm).appliesLoose y e.platform (U.calling g mk a) = true :=
    Spec.appliesLoose_calling (g := g) h hdg hn hkY hinitY
      (X.room_calling (g := g) (R' := (headSpec ws rm).room) hsize hmY hcY hframes (by rw [hlY]; omega) h4 h5) h1
  obtain ⟨mid, hmid⟩ := h.above
  have hfr : (U.setTop g).frames = (.java g :: mid) ++ below := by rw [State.frames_setTop' g h.top, hmid]; rfl
  obtain ⟨o, s₂, hsteps, -, hend, hq⟩ := Steps.callFree hM p X.admits X.cas X.clock (acts := []) hfr happ hPc trivial
  have hq' : vx_Q Qc XC mc ms free a (U.calling g mk a) o s₂ := hq
  rw [State.frames_setTop' g h.top] at hend
  obtain ⟨g₀, hg0⟩ := Option.isSome_iff_exists.mp h.top
  obtain ⟨r, hr⟩ := State.topJava?_eq_some.mp hg0
  have hr' : (({ U with heap := s₂.heap, slotsUsed := s₂.slotsUsed } : State).setVm s₂.vm).frames = .java g₀ :: r := hr
  rcases hq' with ⟨hqc, L, hfe, hL⟩ | ⟨q, rfl, E, ce, L, hx, hce, hcv, hcl, hW₂, hsm, hL⟩
  · obtain ⟨⟨v, rfl⟩, hW₂, e2, q2, q3, q4, q5, q6⟩ := id hfe
    have e3 : s₂ = ({ (U.calling g mk a).setFrames s₂.frames with heap := s₂.heap, slotsUsed := s₂.slotsUsed } : State).setVm s₂.vm := by
      have : s₂ = ({ s₂ with vm := (U.calling g mk a).vm } : State).setVm s₂.vm := rfl
      rw [e2] at this
      exact this
    obtain ⟨c₂, i₂, len₂, hc₂, hd₂, hf₂⟩ := hend
    have hW' : U.WarmedH s₂.vm := hW₂
    have hcc : c₂ = c := by
      have h1 : s₂.code? g.method = U.code? g.method := by
        rw [State.code?_eq, State.code?_eq, hW'.alike.method?]
      exact Option.some.inj (hc₂.symm.trans (h1.trans h.code))
    subst hcc
    have hlen : len₂ = len := by rw [hdg] at hd₂; cases hd₂; rfl
    subst hlen
    have hs₂ : s₂ = (({ U with heap := s₂.heap, slotsUsed := s₂.slotsUsed } : State).setVm s₂.vm).setTop { g with pc := g.pc + len₂, stack := v.toList ++ g.stack } := by
      refine e3.trans ?_
      rw [hf₂, State.calling_eq h.top, State.setFrames_setFrames, State.setTop_of_frames _ hr', hr]
      rfl
    have hsame : U.sameButNew ({ U with heap := s₂.heap, slotsUsed := s₂.slotsUsed } : State) L mc ms := by
      refine ⟨?_, q2, q3, q4, q5, q6⟩
      obtain ⟨t, ht, -⟩ := State.frames_cons hr
      show ({ U with heap := s₂.heap, slotsUsed := s₂.slotsUsed } : State) = { U.setFrames U.frames with heap := s₂.heap, slotsUsed := s₂.slotsUsed }
      rw [State.setFrames_self ht]
    subst hg
    refine Or.inl ⟨v, ⟨(({ U with heap := s₂.heap, slotsUsed := s₂.slotsUsed } : State).setVm s₂.vm), Ls ++ L, c0 + mc, s0 + ms⟩,
      ⟨X.admits, X.cas, X.clock, X.frames, X.room, X.hears, X.method, X.code, (X.here.setHeapUsed s₂.heap s₂.slotsUsed).setVm hW'.alike, X.tail, State.WarmedH.trans X.warmed hW', X.limits, X.bytes, X.same.trans (hsame.setVm s.vm)⟩,
      ⟨g, mk, s₂, L, rfl, rfl, hqc, rfl, hL, rfl, rfl⟩, ?_⟩
    show Steps p.tables e below _ ((({ U with heap := s₂.heap, slotsUsed := s₂.slotsUsed } : State).setVm s₂.vm).setTop { g with pc := g.pc + len₂, stack := v.toList ++ g.stack })
    rw [← hs₂]
    exact hsteps
  · obtain ⟨e2, q2, q3, q4, q5, q6⟩ := id hsm
    have e3 : s₂ = ({ (U.calling g mk a).setFrames s₂.frames with heap := s₂.heap, slotsUsed := s₂.slotsUsed } : State).setVm s₂.vm := by
      have : s₂ = ({ s₂ with vm := (U.calling g mk a).vm } : State).setVm s₂.vm := rfl
      rw [e2] at this
      exact this
    have hf₂ : s₂.frames = .throwing q :: .java g :: U.frames.tail := hend
    have hW' : U.WarmedH s₂.vm := hW₂
    have hs₂ : s₂ = ((({ U with heap := s₂.heap, slotsUsed := s₂.slotsUsed } : State).setVm s₂.vm).setTop g).pushFrame (.throwing q) := by
      refine e3.trans ?_
      rw [hf₂, State.calling_eq h.top, State.setFrames_setFrames, State.pushFrame, State.frames_setTop _ hr', State.setTop_of_frames _ hr', State.setFrames_setFrames, hr]
      rfl
    have hsame : U.sameButNew ({ U with heap := s₂.heap, slotsUsed := s₂.slotsUsed } : State) L mc ms := by
      refine ⟨?_, q2, q3, q4, q5, q6⟩
      obtain ⟨t, ht, -⟩ := State.frames_cons hr
      show ({ U with heap := s₂.heap, slotsUsed := s₂.slotsUsed } : State) = { U.setFrames U.frames with heap := s₂.heap, slotsUsed := s₂.slotsUsed }
      rw [State.setFrames_self ht]
    subst hg
    refine Or.inr ⟨q, ⟨(({ U with heap := s₂.heap, slotsUsed := s₂.slotsUsed } : State).setVm s₂.vm), Ls ++ L, c0 + mc, s0 + ms⟩,
      ⟨X.admits, X.cas, X.clock, X.frames, X.room, X.hears, X.method, X.code, (X.here.setHeapUsed s₂.heap s₂.slotsUsed).setVm hW'.alike, X.tail, State.WarmedH.trans X.warmed hW', X.limits, X.bytes, X.same.trans (hsame.setVm s.vm)⟩,
      ⟨g, mk, s₂, L, E, ce, rfl, rfl, hx, hce, hcv, hcl, rfl, hL, rfl, rfl⟩, ?_⟩
    show Steps p.tables e below _ (((({ U with heap := s₂.heap, slotsUsed := s₂.slotsUsed } : State).setVm s₂.vm).setTop g).pushFrame (.throwing q))
    rw [← hs₂]
    exact hsteps
end
variable {p : Program} {l : Launch} {e : Env} {R : Room} {s : State} {m : MethodId} {args : Array Value} {below : List Frame} {meth : Method} {c : Code} {T : State} {H : Heap} {locs : List Loc} {cells slots : Nat}
theorem vx_callVX (X : Stand p l e R s m args below meth c T locs cells slots) (hexec : p.tables.exec = Jvm.exec) {own C : String} {index : Nat} {y : MethodName} {bytes : ByteArray} {maxL : Nat} {ret : Option FieldType} {hh : List (Nat × Nat × Nat × Nat)}
    (hown : s.vm.findClass own = some m.cls) (hlink : (Cond.methodLink own index y).before args s = true) (hinst : (Cond.instanceMethod y).before args s = true) (hsel : (Cond.selects C y y).before args s = true)
    (hcode : (Cond.codeWith y bytes maxL ret hh).before args s = true) (hy : y.cls ≠ "java/lang/invoke/MethodHandle" ∧ y.cls ≠ "java/lang/invoke/VarHandle")
    {W9 : Nat} {Pre : Pt → Array Value → Prop} {Post : Pt → Array Value → Option Value → Pt → Prop} {PostX : Pt → Array Value → Addr → Pt → Prop} (hK : vx_Back l R p e below s args y 3 W9 Pre Post PostX)
    {b : Addr} {cellB : Cell} (hcell : T.heap[b]? = some cellB) (hobj : cellB.vm.isStatics = false) (hcls : s.vm.findClass C = some cellB.cls)
    {g : JFrame} (hg : g.method = m) (hsize : g.locals.size = c.maxLocals) {argsL rest : List Value} (hlen : ∀ sig, parseMethodDescriptor y.desc = some sig → argsL.length = sig.parameters.length)
    (hstack : g.stack = argsL.reverse ++ .ref b :: rest) (hW : 2 * g.monitorRoom + (rest.map fun v => v.category).sum ≤ W9) (hdg : decode c.code g.pc = .ok (.invokevirtual index, 3))
    (hpre : ∀ vm₁, s.WarmedH vm₁ → Pre ⟨T.setVm vm₁, locs, cells, slots⟩ (Value.ref b :: argsL).toArray) :
    (∃ (v : Option Value) (vm₁ : Vm) (B : Pt), s.WarmedH vm₁ ∧ Stand p l e R s m args below meth c B.U B.locs B.cells B.slots ∧ Post ⟨T.setVm vm₁, locs, cells, slots⟩ (Value.ref b :: argsL).toArray v B ∧
      ∀ target, Steps p.tables e below (B.U.setTop { g with pc := g.pc + 3, stack := v.toList ++ rest }) target → Steps p.tables e below (T.setTop g) target) ∨
    (∃ (q : Addr) (vm₁ : Vm) (B : Pt), s.WarmedH vm₁ ∧ Stand p l e R s m args below meth c B.U B.locs B.cells B.slots ∧ PostX ⟨T.setVm vm₁, locs, cells, slots⟩ (Value.ref b :: argsL).toArray q B ∧
      Steps p.tables e below (T.setTop g) ((B.U.setTop { g with stack := rest }).pushFrame (.throwing q))) := by
  obtain ⟨mk, methM, hnamed, hmethM, hstM, habM⟩ := Cond.instanceMethod_spec hinst
  obtain ⟨m8, methM', cM, hn8, hmethM', -, -, -, -, -, -, hsigM⟩ := Cond.codeWith_spec hcode
  cases Option.some.inj (hn8.symm.trans hnamed)
  cases hmethM.symm.trans hmethM'
  obtain ⟨c2, r2, m2, q1, q2, q3, q4, kP, hkP, hkPi⟩ := Cond.selects_spec hsel
  cases hcls.symm.trans q1
  cases (State.methodFound?_of_named hnamed hy).symm.trans q2
  cases hnamed.symm.trans q3
  have hselP : selectMethod e.platform s.vm cellB.cls mk = .method mk := by rw [Launch.admits_selectMethod X.admits]; exact q4
  obtain ⟨vm₁, X₁, hstep₁⟩ := X.invokevirtual hexec hown hlink hnamed hmethM hstM hkP hkPi hy (a := b) (cell := cellB) hcell
    (fun z h => by rw [h] at hobj; cases hobj) hselP hmethM habM hkP hkPi (g := g) hg (argsL := argsL) (rest := rest) (hlen _ hsigM) hstack hdg
  rcases hK m meth c ⟨T.setVm vm₁, locs, cells, slots⟩ { g with stack := rest } (.invokevirtual index) mk (Value.ref b :: argsL).toArray X₁ hg hsize hdg hW (X₁.named hnamed) (hpre vm₁ X₁.warmed) with ⟨v, B, X', hpost, hsteps⟩ | ⟨q, B, X', hpost, hsteps⟩
  · exact Or.inl ⟨v, vm₁, B, X₁.warmed, X', hpost, fun target h => hstep₁ _ fun acts => by rw [doInvoke_state]; exact hsteps.trans h⟩
  · exact Or.inr ⟨q, vm₁, B, X₁.warmed, X', hpost, hstep₁ _ fun acts => by rw [doInvoke_state]; exact hsteps⟩
theorem vx_callSX (X : Stand p l e R s m args below meth c T locs cells slots) (hexec : p.tables.exec = Jvm.exec) {own : String} {index : Nat} {y : MethodName} {bytes : ByteArray} {maxL : Nat} {ret : Option FieldType} {hh : List (Nat × Nat × Nat × Nat)}
    (hown : s.vm.findClass own = some m.cls) (hlink : (Cond.methodLink own index y).before args s = true) (hstat : (Cond.static y).before args s = true) (hinit : (Cond.initialized y.cls).before args s = true)
    (hcode : (Cond.codeWith y bytes maxL ret hh).before args s = true) (hy : y.cls ≠ "java/lang/invoke/MethodHandle" ∧ y.cls ≠ "java/lang/invoke/VarHandle")
    {W9 : Nat} {Pre : Pt → Array Value → Prop} {Post : Pt → Array Value → Option Value → Pt → Prop} {PostX : Pt → Array Value → Addr → Pt → Prop} (hK : vx_Back l R p e below s args y 3 W9 Pre Post PostX)
    {g : JFrame} (hg : g.method = m) (hsize : g.locals.size = c.maxLocals) {argsL rest : List Value} (hlen : ∀ sig, parseMethodDescriptor y.desc = some sig → argsL.length = sig.parameters.length)
    (hstack : g.stack = argsL.reverse ++ rest) (hW : 2 * g.monitorRoom + (rest.map fun v => v.category).sum ≤ W9) (hdg : decode c.code g.pc = .ok (.invokestatic index, 3))
    (hpre : ∀ vm₁, s.WarmedH vm₁ → Pre ⟨T.setVm vm₁, locs, cells, slots⟩ argsL.toArray) :
    (∃ (v : Option Value) (vm₁ : Vm) (B : Pt), s.WarmedH vm₁ ∧ Stand p l e R s m args below meth c B.U B.locs B.cells B.slots ∧ Post ⟨T.setVm vm₁, locs, cells, slots⟩ argsL.toArray v B ∧
      ∀ target, Steps p.tables e below (B.U.setTop { g with pc := g.pc + 3, stack := v.toList ++ rest }) target → Steps p.tables e below (T.setTop g) target) ∨
    (∃ (q : Addr) (vm₁ : Vm) (B : Pt), s.WarmedH vm₁ ∧ Stand p l e R s m args below meth c B.U B.locs B.cells B.slots ∧ PostX ⟨T.setVm vm₁, locs, cells, slots⟩ argsL.toArray q B ∧
      Steps p.tables e below (T.setTop g) ((B.U.setTop { g with stack := rest }).pushFrame (.throwing q))) := by
  obtain ⟨mk, methM, cM, hnamed, hmethM, -, -, -, -, -, -, hsigM⟩ := Cond.codeWith_spec hcode
  have hstatic : methM.isStatic = true := Cond.static_spec hnamed hmethM hstat
  obtain ⟨kP, hkP, -⟩ := className_of_methodNamed hnamed
  have hinitP : kP.init = .initialized := Cond.initialized_spec (findClass_of_methodNamed hnamed) hkP hinit
  obtain ⟨vm₁, X₁, hstep₁⟩ := X.invokestatic hexec hown hlink hnamed hmethM hstatic hkP hinitP hy (g := g) hg (argsL := argsL) (rest := rest) (hlen _ hsigM) hstack hdg
  rcases hK m meth c ⟨T.setVm vm₁, locs, cells, slots⟩ { g with stack := rest } (.invokestatic index) mk argsL.toArray X₁ hg hsize hdg hW (X₁.named hnamed) (hpre vm₁ X₁.warmed) with ⟨v, B, X', hpost, hsteps⟩ | ⟨q, B, X', hpost, hsteps⟩
  · exact Or.inl ⟨v, vm₁, B, X₁.warmed, X', hpost, fun target h => hstep₁ _ fun acts => by rw [doInvoke_state]; exact hsteps.trans h⟩
  · exact Or.inr ⟨q, vm₁, B, X₁.warmed, X', hpost, hstep₁ _ fun acts => by rw [doInvoke_state]; exact hsteps⟩
theorem vx_callVW (X : Stand p l e R s m args below meth c T locs cells slots) (hexec : p.tables.exec = Jvm.exec) {own C : String} {index : Nat} {y : MethodName} {bytes : ByteArray} {maxL : Nat} {ret : Option FieldType} {hh : List (Nat × Nat × Nat × Nat)}
    (hown : s.vm.findClass own = some m.cls) (hlink : (Cond.methodLink own index y).before args s = true) (hinst : (Cond.instanceMethod y).before args s = true) (hsel : (Cond.selects C y y).before args s = true)
    (hcode : (Cond.codeWith y bytes maxL ret hh).before args s = true) (hy : y.cls ≠ "java/lang/invoke/MethodHandle" ∧ y.cls ≠ "java/lang/invoke/VarHandle")
    {W9 : Nat} {Pre : Pt → Array Value → Prop} {Post : Pt → Array Value → Option Value → Pt → Prop} (hK : Back l R p e below s args y 3 W9 Pre Post)
    {b : Addr} {cellB : Cell} (hcell : T.heap[b]? = some cellB) (hobj : cellB.vm.isStatics = false) (hcls : s.vm.findClass C = some cellB.cls)
    {g : JFrame} (hg : g.method = m) (hsize : g.locals.size = c.maxLocals) {argsL rest : List Value} (hlen : ∀ sig, parseMethodDescriptor y.desc = some sig → argsL.length = sig.parameters.length)
    (hstack : g.stack = argsL.reverse ++ .ref b :: rest) (hW : 2 * g.monitorRoom + (rest.map fun v => v.category).sum ≤ W9) (hdg : decode c.code g.pc = .ok (.invokevirtual index, 3))
    (hpre : ∀ vm₁, s.WarmedH vm₁ → Pre ⟨T.setVm vm₁, locs, cells, slots⟩ (Value.ref b :: argsL).toArray) :
    ∃ (v : Option Value) (vm₁ : Vm) (B : Pt), s.WarmedH vm₁ ∧ Stand p l e R s m args below meth c B.U B.locs B.cells B.slots ∧ Post ⟨T.setVm vm₁, locs, cells, slots⟩ (Value.ref b :: argsL).toArray v B ∧
      ∀ target, Steps p.tables e below (B.U.setTop { g with pc := g.pc + 3, stack := v.toList ++ rest }) target → Steps p.tables e below (T.setTop g) target := by
  obtain ⟨mk, methM, hnamed, hmethM, hstM, habM⟩ := Cond.instanceMethod_spec hinst
  obtain ⟨m8, methM', cM, hn8, hmethM', -, -, -, -, -, -, hsigM⟩ := Cond.codeWith_spec hcode
  cases Option.some.inj (hn8.symm.trans hnamed)
  cases hmethM.symm.trans hmethM'
  obtain ⟨c2, r2, m2, q1, q2, q3, q4, kP, hkP, hkPi⟩ := Cond.selects_spec hsel
  cases hcls.symm.trans q1
  cases (State.methodFound?_of_named hnamed hy).symm.trans q2
  cases hnamed.symm.trans q3
  have hselP : selectMethod e.platform s.vm cellB.cls mk = .method mk := by rw [Launch.admits_selectMethod X.admits]; exact q4
  obtain ⟨vm₁, X₁, hstep₁⟩ := X.invokevirtual hexec hown hlink hnamed hmethM hstM hkP hkPi hy (a := b) (cell := cellB) hcell
    (fun z h => by rw [h] at hobj; cases hobj) hselP hmethM habM hkP hkPi (g := g) hg (argsL := argsL) (rest := rest) (hlen _ hsigM) hstack hdg
  obtain ⟨v, B, X', hpost, hsteps⟩ := hK m meth c ⟨T.setVm vm₁, locs, cells, slots⟩ { g with stack := rest } (.invokevirtual index) mk (Value.ref b :: argsL).toArray X₁ hg hsize hdg hW (X₁.named hnamed) (hpre vm₁ X₁.warmed)
  exact ⟨v, vm₁, B, X₁.warmed, X', hpost, fun target h => hstep₁ _ fun acts => by rw [doInvoke_state]; exact hsteps.trans h⟩
abbrev vx_CVW (R : Room) (s : State) (args : Array Value) (own C : String) (index : Nat) (y : MethodName) (bytes : ByteArray) (maxL : Nat) (ret : Option FieldType) (hh : List (Nat × Nat × Nat × Nat)) (ws : List Cond) (rm : Room) (mc ms n : Nat) : Prop :=
  (rm.cells = mc ∧ rm.slots = ms ∧ rm.frames + 1 ≤ R.frames ∧ 8 + (maxL + 11) + rm.locals ≤ R.locals ∧ (∀ w ∈ ws, ∀ (a' : Array Value) (U : State), s.WarmedH U.vm → w.before a' U = true) ∧ Cond.codeWith y bytes maxL ret hh ∈ ws) ∧
  (Cond.codeWith y bytes maxL ret hh).before args s = true ∧ (Cond.initialized y.cls).before args s = true ∧ (y.cls ≠ "java/lang/invoke/MethodHandle" ∧ y.cls ≠ "java/lang/invoke/VarHandle") ∧
  (∀ sig, parseMethodDescriptor y.desc = some sig → n = sig.parameters.length) ∧ (Cond.methodLink own index y).before args s = true ∧ (Cond.instanceMethod y).before args s = true ∧ (Cond.selects C y y).before args s = true
theorem vx_cwVW {own C : String} {index maxL mc ms : Nat} {y : MethodName} {bytes : ByteArray} {ret : Option FieldType} {hh : List (Nat × Nat × Nat × Nat)} {Ts ws ws' : List Cond} {rm : Room} (n : Nat) (ht : ∀ w ∈ Ts, w.before args s = true) (hT : GoodIn Ts (wsV own index C y ws)) (hw : ws = Cond.codeWith y bytes maxL ret hh :: ws') (hrc : rm.cells = mc) (hrs : rm.slots = ms)
    (hd : y.cls = C ∧ y.cls ≠ "java/lang/invoke/MethodHandle" ∧ y.cls ≠ "java/lang/invoke/VarHandle" ∧ (parseMethodDescriptor y.desc).map (fun d => d.parameters.length) = some n) (hR : rm.frames + 1 ≤ R.frames ∧ 8 + (maxL + 11) + rm.locals ≤ R.locals) :
    vx_CVW R s args own C index y bytes maxL ret hh ws rm mc ms n := by
  obtain ⟨hC, hd⟩ := hd
  subst hC
  have ok : ∀ w ∈ wsV own index y.cls y ws, w.before args s = true := fun w h => ht w (hT w h).1
  have hG : GoodIn Ts ws := fun w h => hT w (by unfold wsV; exact List.mem_append_right _ h)
  have hc : Cond.codeWith y bytes maxL ret hh ∈ ws := by rw [hw]; exact List.mem_cons_self
  refine ⟨⟨hrc, hrs, hR.1, hR.2, pay_in ht hG, hc⟩, ht _ (hG _ hc).1, ok _ (by simp [wsV]), ⟨hd.1, hd.2.1⟩, fun sig h => ?_, ok _ (by simp [wsV]), ok _ (by simp [wsV]), ok _ (by simp [wsV])⟩
  have h2 := hd.2.2
  rw [h] at h2
  exact (Option.some.inj h2).symm
theorem vx_runVW {y : MethodName} {bytes cc : ByteArray} {maxL nL mc ms n index : Nat} {ret : Option FieldType} {hh : List (Nat × Nat × Nat × Nat)} {ws : List Cond} {rm : Room} {Pc : Array Value → State → Prop} {Qc : Array Value → State → Outcome → State → Prop} {free : Addr → Prop} {Ts : List Cond} {own C : String} {b : Addr} {As rest : List Value} {g : JFrame}
    (S : CallFix p m c cc nL s args Ts own) (hM : Met l y ws rm Pc Qc mc ms free) (cw : vx_CVW R s args own C index y bytes maxL ret hh ws rm mc ms n) (hp : PreV s H C b Pc As)
    (hg : g.method = m) (hn : As.length = n) (hsize : g.locals.size = nL) (hstack : g.stack = As.reverse ++ .ref b :: rest) (hW : 2 * g.monitorRoom + (rest.map fun v => v.category).sum ≤ 8) (hdg : decode cc g.pc = .ok (.invokevirtual index, 3)) (hf : cells + mc ≤ R.cells ∧ slots + ms ≤ R.slots) :
    va_Run p l e R s m args below meth c H locs cells slots mc ms g rest (Qc (Value.ref b :: As).toArray) free := by
  obtain ⟨⟨hrc, hrs, hfr, hlo, hws, hcw⟩, hcode, hini, hy, hlen, hl, hin, hse⟩ := cw
  have hK : Back l R p e below s args y 3 8 (PreOf R mc ms Pc) (PostOf Qc mc ms free) := va_backW (hh := hh) (bytes := bytes) (maxL := maxL) (ret := ret) hM hp.1 hrc hrs hfr hlo hws hcw (fun a' U hW => word_at hW (Or.inl (by first | rfl | simp [Cond.onTables, Cond.keeps, Cond.steady])) hini)
  obtain ⟨hx, hb, hml, ho, -⟩ := S
  obtain ⟨-, ⟨cellB, hcB, hoB, hclB⟩, hPc⟩ := hp
  intro T hT X
  obtain ⟨v, vm₁, ⟨U', l2, c2, s2⟩, hW₁, X', ⟨g', mk, t, L, e1, e2, hq, h1, hL, h2, h3⟩, st⟩ := vx_callVW X hx (C := C) (hh := hh) (bytes := bytes) (maxL := maxL) (ret := ret) ho hl hin hse hcode hy hK (by rw [hT]; exact hcB) hoB hclB hg (hsize.trans hml.symm) (argsL := As) (rest := rest) (fun sig h => hn.trans (hlen sig h)) hstack hW (by rw [hb]; exact hdg)
    (fun vm₁ hW₁ => ⟨hf.1, hf.2, hPc (T.setVm vm₁) hT hW₁⟩)
  dsimp only [Pt.U, Pt.locs, Pt.cells, Pt.slots] at X' e1 e2 h1 h2 h3 st
  subst h1; subst h2; subst h3
  exact ⟨v, (T.setVm vm₁).calling g' mk (Value.ref b :: As).toArray, t, U', L, hT, X', hL, e1, e2, hq, st⟩
section
variable {y : MethodName} {bytes cc : ByteArray} {maxL nL mc ms n index : Nat} {ret : Option FieldType} {ws : List Cond} {rm : Room} {Pc : Array Value → State → Prop} {Qc : Array Value → State → Outcome → State → Prop} {XC : String → State → State → Prop} {free : Addr → Prop} {Ts : List Cond} {own C : String} {b : Addr} {As rest : List Value} {g : JFrame}
theorem vx_runVX {hh : List (Nat × Nat × Nat × Nat)} (S : CallFix p m c cc nL s args Ts own) (hM : vx_Met l y ws rm Pc Qc XC mc ms free) (cw : vx_CVW R s args own C index y bytes maxL ret hh ws rm mc ms n) (hp : PreV s H C b Pc As)
    (hg : g.method = m) (hn : As.length = n) (hsize : g.locals.size = nL) (hstack : g.stack = As.reverse ++ .ref b :: rest) (hW : 2 * g.monitorRoom + (rest.map fun v => v.category).sum ≤ 8) (hdg : decode cc g.pc = .ok (.invokevirtual index, 3)) (hf : cells + mc ≤ R.cells ∧ slots + ms ≤ R.slots) :
    vx_Run p l e R s m args below meth c H locs cells slots mc ms g rest (Qc (Value.ref b :: As).toArray) XC free := by
  obtain ⟨⟨hrc, hrs, hfr, hlo, hws, hcw⟩, hcode, hini, hy, hlen, hl, hin, hse⟩ := cw
  have hK : vx_Back l R p e below s args y 3 8 (PreOf R mc ms Pc) (PostOf Qc mc ms free) (vx_Post XC mc ms free) := vx_backW (hh := hh) (bytes := bytes) (maxL := maxL) (ret := ret) hM hp.1 hrc hrs hfr hlo hws hcw (fun a' U hW => word_at hW (Or.inl (by first | rfl | simp [Cond.onTables, Cond.keeps, Cond.steady])) hini)
  obtain ⟨hx, hb, hml, ho, -⟩ := S
  obtain ⟨-, ⟨cellB, hcB, hoB, hclB⟩, hPc⟩ := hp
  intro T hT X
  rcases vx_callVX X hx (C := C) (hh := hh) (bytes := bytes) (maxL := maxL) (ret := ret) ho hl hin hse hcode hy hK (by rw [hT]; exact hcB) hoB hclB hg (hsize.trans hml.symm) (argsL := As) (rest := rest) (fun sig h => hn.trans (hlen sig h)) hstack hW (by rw [hb]; exact hdg)
    (fun vm₁ hW₁ => ⟨hf.1, hf.2, hPc (T.setVm vm₁) hT hW₁⟩) with ⟨v, vm₁, ⟨U', l2, c2, s2⟩, hW₁, X', ⟨g', mk, t, L, e1, e2, hq, h1, hL, h2, h3⟩, st⟩ | ⟨q, vm₁, ⟨U', l2, c2, s2⟩, hW₁, X', ⟨g', mk, t, L, E, ce, e1, e2, hq, hce, hcv, hcl, h1, hL, h2, h3⟩, st⟩
  · dsimp only [Pt.U, Pt.locs, Pt.cells, Pt.slots] at X' e1 e2 h1 h2 h3 st
    subst h1; subst h2; subst h3
    exact Or.inl ⟨v, (T.setVm vm₁).calling g' mk (Value.ref b :: As).toArray, t, U', L, hT, X', hL, e1, e2, hq, st⟩
  · dsimp only [Pt.U, Pt.locs, Pt.cells, Pt.slots] at X' e1 e2 h1 h2 h3 st hcl
    subst h1; subst h2; subst h3
    exact Or.inr ⟨q, (T.setVm vm₁).calling g' mk (Value.ref b :: As).toArray, t, U', L, E, ce, hT, X', hL, e1, e2, hq, hce, hcv, vx_cls hW₁ hcl, st⟩
theorem vx_runSX {hh : List (Nat × Nat × Nat × Nat)} (S : CallFix p m c cc nL s args Ts own) (hM : vx_Met l y ws rm Pc Qc XC mc ms free) (cw : vx_CSW R s args own index y bytes maxL ret hh ws rm mc ms n) (hp : PreS s H Pc As)
    (hg : g.method = m) (hn : As.length = n) (hsize : g.locals.size = nL) (hstack : g.stack = As.reverse ++ rest) (hW : 2 * g.monitorRoom + (rest.map fun v => v.category).sum ≤ 8) (hdg : decode cc g.pc = .ok (.invokestatic index, 3)) (hf : cells + mc ≤ R.cells ∧ slots + ms ≤ R.slots) :
    vx_Run p l e R s m args below meth c H locs cells slots mc ms g rest (Qc As.toArray) XC free := by
  obtain ⟨⟨hrc, hrs, hfr, hlo, hws, hcw⟩, hcode, hini, hy, hlen, hl, hstt⟩ := cw
  have hK : vx_Back l R p e below s args y 3 8 (PreOf R mc ms Pc) (PostOf Qc mc ms free) (vx_Post XC mc ms free) := vx_backW (hh := hh) (bytes := bytes) (maxL := maxL) (ret := ret) hM hp.1 hrc hrs hfr hlo hws hcw (fun a' U hW => word_at hW (Or.inl (by first | rfl | simp [Cond.onTables, Cond.keeps, Cond.steady])) hini)
  obtain ⟨hx, hb, hml, ho, -⟩ := S
  intro T hT X
  rcases vx_callSX X hx (hh := hh) (bytes := bytes) (maxL := maxL) (ret := ret) ho hl hstt hini hcode hy hK hg (hsize.trans hml.symm) (argsL := As) (rest := rest) (fun sig h => hn.trans (hlen sig h)) hstack hW (by rw [hb]; exact hdg)
    (fun vm₁ hW₁ => ⟨hf.1, hf.2, hp.2 (T.setVm vm₁) hT hW₁⟩) with ⟨v, vm₁, ⟨U', l2, c2, s2⟩, hW₁, X', ⟨g', mk, t, L, e1, e2, hq, h1, hL, h2, h3⟩, st⟩ | ⟨q, vm₁, ⟨U', l2, c2, s2⟩, hW₁, X', ⟨g', mk, t, L, E, ce, e1, e2, hq, hce, hcv, hcl, h1, hL, h2, h3⟩, st⟩
  · dsimp only [Pt.U, Pt.locs, Pt.cells, Pt.slots] at X' e1 e2 h1 h2 h3 st
    subst h1; subst h2; subst h3
    exact Or.inl ⟨v, (T.setVm vm₁).calling g' mk As.toArray, t, U', L, hT, X', hL, e1, e2, hq, st⟩
  · dsimp only [Pt.U, Pt.locs, Pt.cells, Pt.slots] at X' e1 e2 h1 h2 h3 st hcl
    subst h1; subst h2; subst h3
    exact Or.inr ⟨q, (T.setVm vm₁).calling g' mk As.toArray, t, U', L, E, ce, hT, X', hL, e1, e2, hq, hce, hcv, vx_cls hW₁ hcl, st⟩
end
end VXH
theorem vx_ofWH {l : Launch} {y : MethodName} {ws ws' : List Cond} {rm : Room} {Pc : Array Value → State → Prop} {Qc : Array Value → State → Outcome → State → Prop} {XC : String → State → State → Prop} {mc ms : Nat} {free : Addr → Prop} {cc : ByteArray} {maxL : Nat} {ret : Option FieldType} {hh : List (Nat × Nat × Nat × Nat)}
    (hy : plainName y.cls = true) (hw : ws = Cond.codeWith y cc maxL ret hh :: ws')
    (body : ∀ p e s m args below meth c s₁, BodyLoose p l y (headSpec ws rm) cc maxL ret e s m args below meth c s₁ → c.maxLocals = maxL → Pc args s →
      W p l e (headSpec ws rm).room s m args below meth c s.heap [] 0 0 (vx_MQ below Qc XC args s mc ms free) (entryFrame m args maxL)) : vx_Met l y ws rm Pc Qc XC mc ms free := by
  refine MetFree.of_bodyS (code := cc) (maxLocals := maxL) (ret := ret) hy ?_ ?_
  · intro args s m h hn
    obtain ⟨m9, meth, c, hn9, h1, h2, h3, h4, -, h5, h6, -⟩ := Cond.codeWith_spec (atoms_spec (ws := ws) h _ (by rw [hw]; exact List.mem_cons_self))
    cases hn.symm.trans hn9
    exact ⟨meth, c, h1, h2, h3, h4, h5, h6⟩
  · intro p e s m args below meth c s₁ B hml hP _
    have hh0 : s₁.heap = s.heap := by rw [B.state]; rfl
    obtain ⟨t, a1, o, b1, b2, b3⟩ := body p e s m args below meth c s₁ B hml hP s₁ hh0 (Stand.of_body B)
    exact ⟨t, o, a1, b1, b2, b3⟩
/-! ===== END ===== -/
end
section
/-- the good words of the tables: every method of ours is proved over them -/
def tb : List Cond := lw_tbl.filter goodWord
theorem tb_good : ∀ w ∈ tb, goodWord w = true := fun w h => (List.mem_filter.mp h).2
theorem tb_in : ∀ w ∈ tb, w ∈ lw_tbl := fun w h => (List.mem_filter.mp h).1
theorem mw0 : (.selects "RoomEchoes" ⟨"RoomEchoes", "requirePoint", "(III)V"⟩ ⟨"RoomEchoes", "requirePoint", "(III)V"⟩ : Cond) ∈ tb := List.mem_filter.mpr ⟨List.mem_of_getElem? (i := 0) (by decide +kernel), by decide +kernel⟩
theorem mw2 : (.selects "RoomEchoes" ⟨"RoomEchoes", "forgetOrder", "()V"⟩ ⟨"RoomEchoes", "forgetOrder", "()V"⟩ : Cond) ∈ tb := List.mem_filter.mpr ⟨List.mem_of_getElem? (i := 2) (by decide +kernel), by decide +kernel⟩
theorem mw3 : (.selects "RoomEchoes" ⟨"RoomEchoes", "distanceOf", "(III)J"⟩ ⟨"RoomEchoes", "distanceOf", "(III)J"⟩ : Cond) ∈ tb := List.mem_filter.mpr ⟨List.mem_of_getElem? (i := 3) (by decide +kernel), by decide +kernel⟩
theorem mw4 : (.selects "RoomEchoes$Axis" ⟨"RoomEchoes$Axis", "imageAt", "(I)I"⟩ ⟨"RoomEchoes$Axis", "imageAt", "(I)I"⟩ : Cond) ∈ tb := List.mem_filter.mpr ⟨List.mem_of_getElem? (i := 4) (by decide +kernel), by decide +kernel⟩
theorem mw5 : (.selects "RoomEchoes" ⟨"RoomEchoes", "strengthOf", "(III)J"⟩ ⟨"RoomEchoes", "strengthOf", "(III)J"⟩ : Cond) ∈ tb := List.mem_filter.mpr ⟨List.mem_of_getElem? (i := 5) (by decide +kernel), by decide +kernel⟩
theorem mw6 : (.selects "RoomEchoes" ⟨"RoomEchoes", "orderEchoes", "()V"⟩ ⟨"RoomEchoes", "orderEchoes", "()V"⟩ : Cond) ∈ tb := List.mem_filter.mpr ⟨List.mem_of_getElem? (i := 6) (by decide +kernel), by decide +kernel⟩
theorem mw7 : (.selects "RoomEchoes$Axis" ⟨"RoomEchoes$Axis", "insert", "(II)V"⟩ ⟨"RoomEchoes$Axis", "insert", "(II)V"⟩ : Cond) ∈ tb := List.mem_filter.mpr ⟨List.mem_of_getElem? (i := 7) (by decide +kernel), by decide +kernel⟩
theorem mw8 : (.selects "RoomEchoes" ⟨"RoomEchoes", "addAtRanks", "(III)V"⟩ ⟨"RoomEchoes", "addAtRanks", "(III)V"⟩ : Cond) ∈ tb := List.mem_filter.mpr ⟨List.mem_of_getElem? (i := 8) (by decide +kernel), by decide +kernel⟩
theorem mw9 : (.selects "RoomEchoes$Frontier" ⟨"RoomEchoes$Frontier", "sinkFromTop", "(J)V"⟩ ⟨"RoomEchoes$Frontier", "sinkFromTop", "(J)V"⟩ : Cond) ∈ tb := List.mem_filter.mpr ⟨List.mem_of_getElem? (i := 9) (by decide +kernel), by decide +kernel⟩
theorem mw10 : (.selects "RoomEchoes$Frontier" ⟨"RoomEchoes$Frontier", "lesserOf", "(I)I"⟩ ⟨"RoomEchoes$Frontier", "lesserOf", "(I)I"⟩ : Cond) ∈ tb := List.mem_filter.mpr ⟨List.mem_of_getElem? (i := 10) (by decide +kernel), by decide +kernel⟩
theorem mw11 : (.selects "RoomEchoes" ⟨"RoomEchoes", "addFollowers", "(J)V"⟩ ⟨"RoomEchoes", "addFollowers", "(J)V"⟩ : Cond) ∈ tb := List.mem_filter.mpr ⟨List.mem_of_getElem? (i := 11) (by decide +kernel), by decide +kernel⟩
theorem mw12 : (.selects "RoomEchoes" ⟨"RoomEchoes", "countWithin", "(J)I"⟩ ⟨"RoomEchoes", "countWithin", "(J)I"⟩ : Cond) ∈ tb := List.mem_filter.mpr ⟨List.mem_of_getElem? (i := 12) (by decide +kernel), by decide +kernel⟩
theorem mw13 : (.selects "RoomEchoes" ⟨"RoomEchoes", "weighEchoes", "()V"⟩ ⟨"RoomEchoes", "weighEchoes", "()V"⟩ : Cond) ∈ tb := List.mem_filter.mpr ⟨List.mem_of_getElem? (i := 13) (by decide +kernel), by decide +kernel⟩
theorem mw14 : (.selects "RoomEchoes" ⟨"RoomEchoes", "loudnessBetween", "(II)J"⟩ ⟨"RoomEchoes", "loudnessBetween", "(II)J"⟩ : Cond) ∈ tb := List.mem_filter.mpr ⟨List.mem_of_getElem? (i := 14) (by decide +kernel), by decide +kernel⟩
theorem mw15 : (.selects "RoomEchoesModel" ⟨"RoomEchoesModel", "isPoint", "(III)Z"⟩ ⟨"RoomEchoesModel", "isPoint", "(III)Z"⟩ : Cond) ∈ tb := List.mem_filter.mpr ⟨List.mem_of_getElem? (i := 15) (by decide +kernel), by decide +kernel⟩
theorem mw16 : (.selects "RoomEchoesModel" ⟨"RoomEchoesModel", "told", "(IIII)J"⟩ ⟨"RoomEchoesModel", "told", "(IIII)J"⟩ : Cond) ∈ tb := List.mem_filter.mpr ⟨List.mem_of_getElem? (i := 16) (by decide +kernel), by decide +kernel⟩
theorem mw17 : (.selects "RoomEchoesModel" ⟨"RoomEchoesModel", "distance", "(III)J"⟩ ⟨"RoomEchoesModel", "distance", "(III)J"⟩ : Cond) ∈ tb := List.mem_filter.mpr ⟨List.mem_of_getElem? (i := 17) (by decide +kernel), by decide +kernel⟩
theorem mw18 : (.selects "RoomEchoesModel" ⟨"RoomEchoesModel", "square", "(II)J"⟩ ⟨"RoomEchoesModel", "square", "(II)J"⟩ : Cond) ∈ tb := List.mem_filter.mpr ⟨List.mem_of_getElem? (i := 18) (by decide +kernel), by decide +kernel⟩
theorem mw19 : (.selects "RoomEchoesModel" ⟨"RoomEchoesModel", "strength", "(III)J"⟩ ⟨"RoomEchoesModel", "strength", "(III)J"⟩ : Cond) ∈ tb := List.mem_filter.mpr ⟨List.mem_of_getElem? (i := 19) (by decide +kernel), by decide +kernel⟩
theorem mw20 : (.selects "RoomEchoesModel" ⟨"RoomEchoesModel", "kept", "(JII)J"⟩ ⟨"RoomEchoesModel", "kept", "(JII)J"⟩ : Cond) ∈ tb := List.mem_filter.mpr ⟨List.mem_of_getElem? (i := 20) (by decide +kernel), by decide +kernel⟩
theorem mw21 : (.selects "RoomEchoesModel" ⟨"RoomEchoesModel", "make", "()V"⟩ ⟨"RoomEchoesModel", "make", "()V"⟩ : Cond) ∈ tb := List.mem_filter.mpr ⟨List.mem_of_getElem? (i := 21) (by decide +kernel), by decide +kernel⟩
theorem mw22 : (.selects "RoomEchoesModel" ⟨"RoomEchoesModel", "prepare", "()V"⟩ ⟨"RoomEchoesModel", "prepare", "()V"⟩ : Cond) ∈ tb := List.mem_filter.mpr ⟨List.mem_of_getElem? (i := 22) (by decide +kernel), by decide +kernel⟩
theorem mw23 : (.selects "RoomEchoesModel" ⟨"RoomEchoesModel", "isEnough", "(J)Z"⟩ ⟨"RoomEchoesModel", "isEnough", "(J)Z"⟩ : Cond) ∈ tb := List.mem_filter.mpr ⟨List.mem_of_getElem? (i := 23) (by decide +kernel), by decide +kernel⟩
theorem mw24 : (.selects "RoomEchoesModel" ⟨"RoomEchoesModel", "collect", "(IJJ)I"⟩ ⟨"RoomEchoesModel", "collect", "(IJJ)I"⟩ : Cond) ∈ tb := List.mem_filter.mpr ⟨List.mem_of_getElem? (i := 24) (by decide +kernel), by decide +kernel⟩
theorem mw25 : (.selects "RoomEchoesModel" ⟨"RoomEchoesModel", "put", "(IJIII)V"⟩ ⟨"RoomEchoesModel", "put", "(IJIII)V"⟩ : Cond) ∈ tb := List.mem_filter.mpr ⟨List.mem_of_getElem? (i := 25) (by decide +kernel), by decide +kernel⟩
theorem mw26 : (.selects "RoomEchoesModel" ⟨"RoomEchoesModel", "countUntil", "(J)I"⟩ ⟨"RoomEchoesModel", "countUntil", "(J)I"⟩ : Cond) ∈ tb := List.mem_filter.mpr ⟨List.mem_of_getElem? (i := 26) (by decide +kernel), by decide +kernel⟩
theorem mw27 : (.selects "RoomEchoesModel" ⟨"RoomEchoesModel", "first", "(I)J"⟩ ⟨"RoomEchoesModel", "first", "(I)J"⟩ : Cond) ∈ tb := List.mem_filter.mpr ⟨List.mem_of_getElem? (i := 27) (by decide +kernel), by decide +kernel⟩
theorem mw28 : (.selects "RoomEchoesModel" ⟨"RoomEchoesModel", "loudness", "(I)J"⟩ ⟨"RoomEchoesModel", "loudness", "(I)J"⟩ : Cond) ∈ tb := List.mem_filter.mpr ⟨List.mem_of_getElem? (i := 28) (by decide +kernel), by decide +kernel⟩
theorem mw29 : (.initialized "RoomEchoesLaw" : Cond) ∈ tb := List.mem_filter.mpr ⟨List.mem_of_getElem? (i := 29) (by decide +kernel), by decide +kernel⟩
theorem mw30 : (.initialized "RoomEchoes" : Cond) ∈ tb := List.mem_filter.mpr ⟨List.mem_of_getElem? (i := 30) (by decide +kernel), by decide +kernel⟩
theorem mw31 : (.initialized "RoomEchoes$Frontier" : Cond) ∈ tb := List.mem_filter.mpr ⟨List.mem_of_getElem? (i := 31) (by decide +kernel), by decide +kernel⟩
theorem mw32 : (.initialized "RoomEchoes$Axis" : Cond) ∈ tb := List.mem_filter.mpr ⟨List.mem_of_getElem? (i := 32) (by decide +kernel), by decide +kernel⟩
theorem mw33 : (.initialized "java/lang/Math" : Cond) ∈ tb := List.mem_filter.mpr ⟨List.mem_of_getElem? (i := 33) (by decide +kernel), by decide +kernel⟩
theorem mw34 : (.initialized "RoomEchoesModel" : Cond) ∈ tb := List.mem_filter.mpr ⟨List.mem_of_getElem? (i := 34) (by decide +kernel), by decide +kernel⟩
theorem mw38 : (.initialized "java/lang/IllegalArgumentException" : Cond) ∈ tb := List.mem_filter.mpr ⟨List.mem_of_getElem? (i := 38) (by decide +kernel), by decide +kernel⟩
theorem mw39 : (.classLink "RoomEchoesLaw" 8 "RoomEchoes" : Cond) ∈ tb := List.mem_filter.mpr ⟨List.mem_of_getElem? (i := 39) (by decide +kernel), by decide +kernel⟩
theorem mw40 : (.instantiable "RoomEchoes" 9 : Cond) ∈ tb := List.mem_filter.mpr ⟨List.mem_of_getElem? (i := 40) (by decide +kernel), by decide +kernel⟩
theorem mw41 : (.methodLink "RoomEchoesLaw" 58 ⟨"RoomEchoes", "<init>", "(III)V"⟩ : Cond) ∈ tb := List.mem_filter.mpr ⟨List.mem_of_getElem? (i := 41) (by decide +kernel), by decide +kernel⟩
theorem mw42 : (.instanceMethod ⟨"RoomEchoes", "<init>", "(III)V"⟩ : Cond) ∈ tb := List.mem_filter.mpr ⟨List.mem_of_getElem? (i := 42) (by decide +kernel), by decide +kernel⟩
theorem mw43 : (.code ⟨"RoomEchoes", "<init>", "(III)V"⟩ prog_1_method_1_code 5 none : Cond) ∈ tb := List.mem_filter.mpr ⟨List.mem_of_getElem? (i := 43) (by decide +kernel), by decide +kernel⟩
theorem mw44 : (.methodLink "RoomEchoes" 3 ⟨"java/lang/Object", "<init>", "()V"⟩ : Cond) ∈ tb := List.mem_filter.mpr ⟨List.mem_of_getElem? (i := 44) (by decide +kernel), by decide +kernel⟩
theorem mw45 : (.instanceMethod ⟨"java/lang/Object", "<init>", "()V"⟩ : Cond) ∈ tb := List.mem_filter.mpr ⟨List.mem_of_getElem? (i := 45) (by decide +kernel), by decide +kernel⟩
theorem mw46 : (.code ⟨"java/lang/Object", "<init>", "()V"⟩ object_method_1_code 1 none : Cond) ∈ tb := List.mem_filter.mpr ⟨List.mem_of_getElem? (i := 46) (by decide +kernel), by decide +kernel⟩
theorem mw47 : (.classLink "RoomEchoes" 13 "RoomEchoes$Frontier" : Cond) ∈ tb := List.mem_filter.mpr ⟨List.mem_of_getElem? (i := 47) (by decide +kernel), by decide +kernel⟩
theorem mw48 : (.instantiable "RoomEchoes$Frontier" 2 : Cond) ∈ tb := List.mem_filter.mpr ⟨List.mem_of_getElem? (i := 48) (by decide +kernel), by decide +kernel⟩
theorem mw50 : (.instanceMethod ⟨"RoomEchoes$Frontier", "<init>", "()V"⟩ : Cond) ∈ tb := List.mem_filter.mpr ⟨List.mem_of_getElem? (i := 50) (by decide +kernel), by decide +kernel⟩
theorem mw51 : (.code ⟨"RoomEchoes$Frontier", "<init>", "()V"⟩ prog_3_method_1_code 1 none : Cond) ∈ tb := List.mem_filter.mpr ⟨List.mem_of_getElem? (i := 51) (by decide +kernel), by decide +kernel⟩
theorem mw52 : (.methodLink "RoomEchoes$Frontier" 3 ⟨"java/lang/Object", "<init>", "()V"⟩ : Cond) ∈ tb := List.mem_filter.mpr ⟨List.mem_of_getElem? (i := 52) (by decide +kernel), by decide +kernel⟩
theorem mw53 : (.fieldLink "RoomEchoes$Frontier" 9 "RoomEchoes$Frontier" "keys" "[J" : Cond) ∈ tb := List.mem_filter.mpr ⟨List.mem_of_getElem? (i := 53) (by decide +kernel), by decide +kernel⟩
theorem mw54 : (.fieldLink "RoomEchoes$Frontier" 15 "RoomEchoes$Frontier" "size" "I" : Cond) ∈ tb := List.mem_filter.mpr ⟨List.mem_of_getElem? (i := 54) (by decide +kernel), by decide +kernel⟩
theorem mw60 : (.arrayClass .int : Cond) ∈ tb := List.mem_filter.mpr ⟨List.mem_of_getElem? (i := 60) (by decide +kernel), by decide +kernel⟩
theorem mw61 : (.arrayClass .long : Cond) ∈ tb := List.mem_filter.mpr ⟨List.mem_of_getElem? (i := 61) (by decide +kernel), by decide +kernel⟩
theorem mw62 : (.classLink "RoomEchoes" 27 "RoomEchoes$Axis" : Cond) ∈ tb := List.mem_filter.mpr ⟨List.mem_of_getElem? (i := 62) (by decide +kernel), by decide +kernel⟩
theorem mw63 : (.instantiable "RoomEchoes$Axis" 5 : Cond) ∈ tb := List.mem_filter.mpr ⟨List.mem_of_getElem? (i := 63) (by decide +kernel), by decide +kernel⟩
theorem mw64 : (.methodLink "RoomEchoes" 29 ⟨"RoomEchoes", "sizeWithin", "(I)I"⟩ : Cond) ∈ tb := List.mem_filter.mpr ⟨List.mem_of_getElem? (i := 64) (by decide +kernel), by decide +kernel⟩
theorem mw65 : (.static ⟨"RoomEchoes", "sizeWithin", "(I)I"⟩ : Cond) ∈ tb := List.mem_filter.mpr ⟨List.mem_of_getElem? (i := 65) (by decide +kernel), by decide +kernel⟩
theorem mw66 : (.code ⟨"RoomEchoes", "sizeWithin", "(I)I"⟩ prog_1_method_13_code 1 (some .int) : Cond) ∈ tb := List.mem_filter.mpr ⟨List.mem_of_getElem? (i := 66) (by decide +kernel), by decide +kernel⟩
theorem mw67 : (.methodLink "RoomEchoes" 127 ⟨"java/lang/Math", "min", "(II)I"⟩ : Cond) ∈ tb := List.mem_filter.mpr ⟨List.mem_of_getElem? (i := 67) (by decide +kernel), by decide +kernel⟩
theorem mw68 : (.static ⟨"java/lang/Math", "min", "(II)I"⟩ : Cond) ∈ tb := List.mem_filter.mpr ⟨List.mem_of_getElem? (i := 68) (by decide +kernel), by decide +kernel⟩
theorem mw69 : (.code ⟨"java/lang/Math", "min", "(II)I"⟩ prog_8_method_69_code 2 (some .int) : Cond) ∈ tb := List.mem_filter.mpr ⟨List.mem_of_getElem? (i := 69) (by decide +kernel), by decide +kernel⟩
theorem mw70 : (.methodLink "RoomEchoes" 133 ⟨"java/lang/Math", "max", "(II)I"⟩ : Cond) ∈ tb := List.mem_filter.mpr ⟨List.mem_of_getElem? (i := 70) (by decide +kernel), by decide +kernel⟩
theorem mw71 : (.static ⟨"java/lang/Math", "max", "(II)I"⟩ : Cond) ∈ tb := List.mem_filter.mpr ⟨List.mem_of_getElem? (i := 71) (by decide +kernel), by decide +kernel⟩
theorem mw72 : (.code ⟨"java/lang/Math", "max", "(II)I"⟩ prog_8_method_65_code 2 (some .int) : Cond) ∈ tb := List.mem_filter.mpr ⟨List.mem_of_getElem? (i := 72) (by decide +kernel), by decide +kernel⟩
theorem mw73 : (.methodLink "RoomEchoes" 33 ⟨"RoomEchoes$Axis", "<init>", "(I)V"⟩ : Cond) ∈ tb := List.mem_filter.mpr ⟨List.mem_of_getElem? (i := 73) (by decide +kernel), by decide +kernel⟩
theorem mw74 : (.instanceMethod ⟨"RoomEchoes$Axis", "<init>", "(I)V"⟩ : Cond) ∈ tb := List.mem_filter.mpr ⟨List.mem_of_getElem? (i := 74) (by decide +kernel), by decide +kernel⟩
theorem mw75 : (.code ⟨"RoomEchoes$Axis", "<init>", "(I)V"⟩ prog_2_method_1_code 2 none : Cond) ∈ tb := List.mem_filter.mpr ⟨List.mem_of_getElem? (i := 75) (by decide +kernel), by decide +kernel⟩
theorem mw76 : (.methodLink "RoomEchoes$Axis" 3 ⟨"java/lang/Object", "<init>", "()V"⟩ : Cond) ∈ tb := List.mem_filter.mpr ⟨List.mem_of_getElem? (i := 76) (by decide +kernel), by decide +kernel⟩
theorem mw77 : (.fieldLink "RoomEchoes$Axis" 19 "RoomEchoes$Axis" "size" "I" : Cond) ∈ tb := List.mem_filter.mpr ⟨List.mem_of_getElem? (i := 77) (by decide +kernel), by decide +kernel⟩
theorem mw78 : (.fieldLink "RoomEchoes" 145 "RoomEchoes$Axis" "size" "I" : Cond) ∈ tb := List.mem_filter.mpr ⟨List.mem_of_getElem? (i := 78) (by decide +kernel), by decide +kernel⟩
theorem mw79 : (.fieldLink "RoomEchoes" 50 "RoomEchoes$Axis" "sourceAt" "I" : Cond) ∈ tb := List.mem_filter.mpr ⟨List.mem_of_getElem? (i := 79) (by decide +kernel), by decide +kernel⟩
theorem mw80 : (.fieldLink "RoomEchoes$Axis" 30 "RoomEchoes$Axis" "sourceAt" "I" : Cond) ∈ tb := List.mem_filter.mpr ⟨List.mem_of_getElem? (i := 80) (by decide +kernel), by decide +kernel⟩
theorem mw81 : (.fieldLink "RoomEchoes$Axis" 27 "RoomEchoes$Axis" "listenerAt" "I" : Cond) ∈ tb := List.mem_filter.mpr ⟨List.mem_of_getElem? (i := 81) (by decide +kernel), by decide +kernel⟩
theorem mw82 : (.fieldLink "RoomEchoes" 57 "RoomEchoes$Axis" "listenerAt" "I" : Cond) ∈ tb := List.mem_filter.mpr ⟨List.mem_of_getElem? (i := 82) (by decide +kernel), by decide +kernel⟩
theorem mw83 : (.fieldLink "RoomEchoes$Axis" 9 "RoomEchoes$Axis" "ranked" "[J" : Cond) ∈ tb := List.mem_filter.mpr ⟨List.mem_of_getElem? (i := 83) (by decide +kernel), by decide +kernel⟩
theorem mw84 : (.fieldLink "RoomEchoes$Axis" 15 "RoomEchoes$Axis" "ranks" "[I" : Cond) ∈ tb := List.mem_filter.mpr ⟨List.mem_of_getElem? (i := 84) (by decide +kernel), by decide +kernel⟩
theorem mw96 : (.fieldLink "RoomEchoes" 36 "RoomEchoes" "first" "LRoomEchoes$Axis;" : Cond) ∈ tb := List.mem_filter.mpr ⟨List.mem_of_getElem? (i := 96) (by decide +kernel), by decide +kernel⟩
theorem mw97 : (.fieldLink "RoomEchoes" 40 "RoomEchoes" "second" "LRoomEchoes$Axis;" : Cond) ∈ tb := List.mem_filter.mpr ⟨List.mem_of_getElem? (i := 97) (by decide +kernel), by decide +kernel⟩
theorem mw98 : (.fieldLink "RoomEchoes" 43 "RoomEchoes" "third" "LRoomEchoes$Axis;" : Cond) ∈ tb := List.mem_filter.mpr ⟨List.mem_of_getElem? (i := 98) (by decide +kernel), by decide +kernel⟩
theorem mw99 : (.fieldLink "RoomEchoes" 9 "RoomEchoes" "kept" "[I" : Cond) ∈ tb := List.mem_filter.mpr ⟨List.mem_of_getElem? (i := 99) (by decide +kernel), by decide +kernel⟩
theorem mw100 : (.fieldLink "RoomEchoes" 16 "RoomEchoes" "frontier" "LRoomEchoes$Frontier;" : Cond) ∈ tb := List.mem_filter.mpr ⟨List.mem_of_getElem? (i := 100) (by decide +kernel), by decide +kernel⟩
theorem mw101 : (.fieldLink "RoomEchoes" 20 "RoomEchoes" "echoKeys" "[J" : Cond) ∈ tb := List.mem_filter.mpr ⟨List.mem_of_getElem? (i := 101) (by decide +kernel), by decide +kernel⟩
theorem mw102 : (.fieldLink "RoomEchoes" 24 "RoomEchoes" "loudnesses" "[J" : Cond) ∈ tb := List.mem_filter.mpr ⟨List.mem_of_getElem? (i := 102) (by decide +kernel), by decide +kernel⟩
theorem mw103 : (.fieldLink "RoomEchoes" 179 "RoomEchoes" "ordered" "Z" : Cond) ∈ tb := List.mem_filter.mpr ⟨List.mem_of_getElem? (i := 103) (by decide +kernel), by decide +kernel⟩
theorem mw104 : (.fieldLink "RoomEchoes" 63 "RoomEchoes" "weighed" "Z" : Cond) ∈ tb := List.mem_filter.mpr ⟨List.mem_of_getElem? (i := 104) (by decide +kernel), by decide +kernel⟩
theorem mw124 : (.methodLink "RoomEchoesLaw" 52 ⟨"RoomEchoesLaw", "cell", "([II)I"⟩ : Cond) ∈ tb := List.mem_filter.mpr ⟨List.mem_of_getElem? (i := 124) (by decide +kernel), by decide +kernel⟩
theorem mw125 : (.static ⟨"RoomEchoesLaw", "cell", "([II)I"⟩ : Cond) ∈ tb := List.mem_filter.mpr ⟨List.mem_of_getElem? (i := 125) (by decide +kernel), by decide +kernel⟩
theorem mw126 : (.code ⟨"RoomEchoesLaw", "cell", "([II)I"⟩ method_2_code 2 (some .int) : Cond) ∈ tb := List.mem_filter.mpr ⟨List.mem_of_getElem? (i := 126) (by decide +kernel), by decide +kernel⟩
theorem mw127 : (.methodLink "RoomEchoesLaw" 63 ⟨"RoomEchoesLaw", "source", "(LRoomEchoes;III)I"⟩ : Cond) ∈ tb := List.mem_filter.mpr ⟨List.mem_of_getElem? (i := 127) (by decide +kernel), by decide +kernel⟩
theorem mw128 : (.static ⟨"RoomEchoesLaw", "source", "(LRoomEchoes;III)I"⟩ : Cond) ∈ tb := List.mem_filter.mpr ⟨List.mem_of_getElem? (i := 128) (by decide +kernel), by decide +kernel⟩
theorem mw129 : (.codeWith ⟨"RoomEchoesLaw", "source", "(LRoomEchoes;III)I"⟩ method_3_code 5 (some .int) [(0, 7, 10, 13)] : Cond) ∈ tb := List.mem_filter.mpr ⟨List.mem_of_getElem? (i := 129) (by decide +kernel), by decide +kernel⟩
theorem mw130 : (.classLink "RoomEchoesLaw" 13 "java/lang/IllegalArgumentException" : Cond) ∈ tb := List.mem_filter.mpr ⟨List.mem_of_getElem? (i := 130) (by decide +kernel), by decide +kernel⟩
theorem mw131 : (.methodLink "RoomEchoesLaw" 7 ⟨"RoomEchoes", "source", "(III)V"⟩ : Cond) ∈ tb := List.mem_filter.mpr ⟨List.mem_of_getElem? (i := 131) (by decide +kernel), by decide +kernel⟩
theorem mw132 : (.instanceMethod ⟨"RoomEchoes", "source", "(III)V"⟩ : Cond) ∈ tb := List.mem_filter.mpr ⟨List.mem_of_getElem? (i := 132) (by decide +kernel), by decide +kernel⟩
theorem mw133 : (.selects "RoomEchoes" ⟨"RoomEchoes", "source", "(III)V"⟩ ⟨"RoomEchoes", "source", "(III)V"⟩ : Cond) ∈ tb := List.mem_filter.mpr ⟨List.mem_of_getElem? (i := 133) (by decide +kernel), by decide +kernel⟩
theorem mw134 : (.code ⟨"RoomEchoes", "source", "(III)V"⟩ prog_1_method_2_code 4 none : Cond) ∈ tb := List.mem_filter.mpr ⟨List.mem_of_getElem? (i := 134) (by decide +kernel), by decide +kernel⟩
theorem mw135 : (.methodLink "RoomEchoes" 46 ⟨"RoomEchoes", "requirePoint", "(III)V"⟩ : Cond) ∈ tb := List.mem_filter.mpr ⟨List.mem_of_getElem? (i := 135) (by decide +kernel), by decide +kernel⟩
theorem mw137 : (.instanceMethod ⟨"RoomEchoes", "requirePoint", "(III)V"⟩ : Cond) ∈ tb := List.mem_filter.mpr ⟨List.mem_of_getElem? (i := 137) (by decide +kernel), by decide +kernel⟩
theorem mw138 : (.code ⟨"RoomEchoes", "requirePoint", "(III)V"⟩ prog_1_method_17_code 4 none : Cond) ∈ tb := List.mem_filter.mpr ⟨List.mem_of_getElem? (i := 138) (by decide +kernel), by decide +kernel⟩
theorem mw139 : (.methodLink "RoomEchoes" 60 ⟨"RoomEchoes", "requireWithin", "(III)V"⟩ : Cond) ∈ tb := List.mem_filter.mpr ⟨List.mem_of_getElem? (i := 139) (by decide +kernel), by decide +kernel⟩
theorem mw140 : (.static ⟨"RoomEchoes", "requireWithin", "(III)V"⟩ : Cond) ∈ tb := List.mem_filter.mpr ⟨List.mem_of_getElem? (i := 140) (by decide +kernel), by decide +kernel⟩
theorem mw141 : (.code ⟨"RoomEchoes", "requireWithin", "(III)V"⟩ prog_1_method_14_code 3 none : Cond) ∈ tb := List.mem_filter.mpr ⟨List.mem_of_getElem? (i := 141) (by decide +kernel), by decide +kernel⟩
theorem mw142 : (.classLink "RoomEchoes" 136 "java/lang/IllegalArgumentException" : Cond) ∈ tb := List.mem_filter.mpr ⟨List.mem_of_getElem? (i := 142) (by decide +kernel), by decide +kernel⟩
theorem mw143 : (.instantiable "java/lang/IllegalArgumentException" 6 : Cond) ∈ tb := List.mem_filter.mpr ⟨List.mem_of_getElem? (i := 143) (by decide +kernel), by decide +kernel⟩
theorem mw182 : (.methodLink "RoomEchoes" 140 ⟨"java/lang/IllegalArgumentException", "<init>", "(Ljava/lang/String;)V"⟩ : Cond) ∈ tb := List.mem_filter.mpr ⟨List.mem_of_getElem? (i := 182) (by decide +kernel), by decide +kernel⟩
theorem mw183 : (.instanceMethod ⟨"java/lang/IllegalArgumentException", "<init>", "(Ljava/lang/String;)V"⟩ : Cond) ∈ tb := List.mem_filter.mpr ⟨List.mem_of_getElem? (i := 183) (by decide +kernel), by decide +kernel⟩
theorem mw184 : (.code ⟨"java/lang/IllegalArgumentException", "<init>", "(Ljava/lang/String;)V"⟩ prog_7_method_2_code 2 none : Cond) ∈ tb := List.mem_filter.mpr ⟨List.mem_of_getElem? (i := 184) (by decide +kernel), by decide +kernel⟩
theorem mw207 : (.arrayClass .byte : Cond) ∈ tb := List.mem_filter.mpr ⟨List.mem_of_getElem? (i := 207) (by decide +kernel), by decide +kernel⟩
theorem mw208 : (.methodLink "RoomEchoes" 54 ⟨"RoomEchoes", "forgetOrder", "()V"⟩ : Cond) ∈ tb := List.mem_filter.mpr ⟨List.mem_of_getElem? (i := 208) (by decide +kernel), by decide +kernel⟩
theorem mw210 : (.instanceMethod ⟨"RoomEchoes", "forgetOrder", "()V"⟩ : Cond) ∈ tb := List.mem_filter.mpr ⟨List.mem_of_getElem? (i := 210) (by decide +kernel), by decide +kernel⟩
theorem mw211 : (.code ⟨"RoomEchoes", "forgetOrder", "()V"⟩ prog_1_method_34_code 1 none : Cond) ∈ tb := List.mem_filter.mpr ⟨List.mem_of_getElem? (i := 211) (by decide +kernel), by decide +kernel⟩
theorem mw212 : (.methodLink "RoomEchoesLaw" 71 ⟨"RoomEchoesLaw", "listener", "(LRoomEchoes;III)I"⟩ : Cond) ∈ tb := List.mem_filter.mpr ⟨List.mem_of_getElem? (i := 212) (by decide +kernel), by decide +kernel⟩
theorem mw213 : (.static ⟨"RoomEchoesLaw", "listener", "(LRoomEchoes;III)I"⟩ : Cond) ∈ tb := List.mem_filter.mpr ⟨List.mem_of_getElem? (i := 213) (by decide +kernel), by decide +kernel⟩
theorem mw214 : (.codeWith ⟨"RoomEchoesLaw", "listener", "(LRoomEchoes;III)I"⟩ method_4_code 5 (some .int) [(0, 7, 10, 13)] : Cond) ∈ tb := List.mem_filter.mpr ⟨List.mem_of_getElem? (i := 214) (by decide +kernel), by decide +kernel⟩
theorem mw215 : (.methodLink "RoomEchoesLaw" 15 ⟨"RoomEchoes", "listener", "(III)V"⟩ : Cond) ∈ tb := List.mem_filter.mpr ⟨List.mem_of_getElem? (i := 215) (by decide +kernel), by decide +kernel⟩
theorem mw216 : (.instanceMethod ⟨"RoomEchoes", "listener", "(III)V"⟩ : Cond) ∈ tb := List.mem_filter.mpr ⟨List.mem_of_getElem? (i := 216) (by decide +kernel), by decide +kernel⟩
theorem mw217 : (.selects "RoomEchoes" ⟨"RoomEchoes", "listener", "(III)V"⟩ ⟨"RoomEchoes", "listener", "(III)V"⟩ : Cond) ∈ tb := List.mem_filter.mpr ⟨List.mem_of_getElem? (i := 217) (by decide +kernel), by decide +kernel⟩
theorem mw218 : (.code ⟨"RoomEchoes", "listener", "(III)V"⟩ prog_1_method_3_code 4 none : Cond) ∈ tb := List.mem_filter.mpr ⟨List.mem_of_getElem? (i := 218) (by decide +kernel), by decide +kernel⟩
theorem mw219 : (.methodLink "RoomEchoesLaw" 74 ⟨"RoomEchoesLaw", "keeps", "(LRoomEchoes;II[J)I"⟩ : Cond) ∈ tb := List.mem_filter.mpr ⟨List.mem_of_getElem? (i := 219) (by decide +kernel), by decide +kernel⟩
theorem mw220 : (.static ⟨"RoomEchoesLaw", "keeps", "(LRoomEchoes;II[J)I"⟩ : Cond) ∈ tb := List.mem_filter.mpr ⟨List.mem_of_getElem? (i := 220) (by decide +kernel), by decide +kernel⟩
theorem mw221 : (.codeWith ⟨"RoomEchoesLaw", "keeps", "(LRoomEchoes;II[J)I"⟩ method_5_code 5 (some .int) [(0, 10, 13, 13)] : Cond) ∈ tb := List.mem_filter.mpr ⟨List.mem_of_getElem? (i := 221) (by decide +kernel), by decide +kernel⟩
theorem mw222 : (.methodLink "RoomEchoesLaw" 18 ⟨"RoomEchoes", "keeps", "(II)I"⟩ : Cond) ∈ tb := List.mem_filter.mpr ⟨List.mem_of_getElem? (i := 222) (by decide +kernel), by decide +kernel⟩
theorem mw223 : (.instanceMethod ⟨"RoomEchoes", "keeps", "(II)I"⟩ : Cond) ∈ tb := List.mem_filter.mpr ⟨List.mem_of_getElem? (i := 223) (by decide +kernel), by decide +kernel⟩
theorem mw224 : (.selects "RoomEchoes" ⟨"RoomEchoes", "keeps", "(II)I"⟩ ⟨"RoomEchoes", "keeps", "(II)I"⟩ : Cond) ∈ tb := List.mem_filter.mpr ⟨List.mem_of_getElem? (i := 224) (by decide +kernel), by decide +kernel⟩
theorem mw225 : (.code ⟨"RoomEchoes", "keeps", "(II)I"⟩ prog_1_method_4_code 4 (some .int) : Cond) ∈ tb := List.mem_filter.mpr ⟨List.mem_of_getElem? (i := 225) (by decide +kernel), by decide +kernel⟩
theorem mw226 : (.methodLink "RoomEchoesLaw" 78 ⟨"RoomEchoesLaw", "image", "(LRoomEchoes;IIII[J)I"⟩ : Cond) ∈ tb := List.mem_filter.mpr ⟨List.mem_of_getElem? (i := 226) (by decide +kernel), by decide +kernel⟩
theorem mw227 : (.static ⟨"RoomEchoesLaw", "image", "(LRoomEchoes;IIII[J)I"⟩ : Cond) ∈ tb := List.mem_filter.mpr ⟨List.mem_of_getElem? (i := 227) (by decide +kernel), by decide +kernel⟩
theorem mw228 : (.codeWith ⟨"RoomEchoesLaw", "image", "(LRoomEchoes;IIII[J)I"⟩ method_6_code 7 (some .int) [(0, 13, 16, 13)] : Cond) ∈ tb := List.mem_filter.mpr ⟨List.mem_of_getElem? (i := 228) (by decide +kernel), by decide +kernel⟩
theorem mw229 : (.methodLink "RoomEchoesLaw" 22 ⟨"RoomEchoes", "image", "(IIII)J"⟩ : Cond) ∈ tb := List.mem_filter.mpr ⟨List.mem_of_getElem? (i := 229) (by decide +kernel), by decide +kernel⟩
theorem mw230 : (.instanceMethod ⟨"RoomEchoes", "image", "(IIII)J"⟩ : Cond) ∈ tb := List.mem_filter.mpr ⟨List.mem_of_getElem? (i := 230) (by decide +kernel), by decide +kernel⟩
theorem mw231 : (.selects "RoomEchoes" ⟨"RoomEchoes", "image", "(IIII)J"⟩ ⟨"RoomEchoes", "image", "(IIII)J"⟩ : Cond) ∈ tb := List.mem_filter.mpr ⟨List.mem_of_getElem? (i := 231) (by decide +kernel), by decide +kernel⟩
theorem mw232 : (.code ⟨"RoomEchoes", "image", "(IIII)J"⟩ prog_1_method_5_code 5 (some .long) : Cond) ∈ tb := List.mem_filter.mpr ⟨List.mem_of_getElem? (i := 232) (by decide +kernel), by decide +kernel⟩
theorem mw233 : (.methodLink "RoomEchoes" 67 ⟨"RoomEchoes", "requireNumbers", "(III)V"⟩ : Cond) ∈ tb := List.mem_filter.mpr ⟨List.mem_of_getElem? (i := 233) (by decide +kernel), by decide +kernel⟩
theorem mw234 : (.static ⟨"RoomEchoes", "requireNumbers", "(III)V"⟩ : Cond) ∈ tb := List.mem_filter.mpr ⟨List.mem_of_getElem? (i := 234) (by decide +kernel), by decide +kernel⟩
theorem mw235 : (.code ⟨"RoomEchoes", "requireNumbers", "(III)V"⟩ prog_1_method_16_code 3 none : Cond) ∈ tb := List.mem_filter.mpr ⟨List.mem_of_getElem? (i := 235) (by decide +kernel), by decide +kernel⟩
theorem mw236 : (.methodLink "RoomEchoes" 70 ⟨"RoomEchoes", "distanceOf", "(III)J"⟩ : Cond) ∈ tb := List.mem_filter.mpr ⟨List.mem_of_getElem? (i := 236) (by decide +kernel), by decide +kernel⟩
theorem mw238 : (.instanceMethod ⟨"RoomEchoes", "distanceOf", "(III)J"⟩ : Cond) ∈ tb := List.mem_filter.mpr ⟨List.mem_of_getElem? (i := 238) (by decide +kernel), by decide +kernel⟩
theorem mw239 : (.code ⟨"RoomEchoes", "distanceOf", "(III)J"⟩ prog_1_method_18_code 4 (some .long) : Cond) ∈ tb := List.mem_filter.mpr ⟨List.mem_of_getElem? (i := 239) (by decide +kernel), by decide +kernel⟩
theorem mw240 : (.methodLink "RoomEchoes" 148 ⟨"RoomEchoes$Axis", "squareTo", "(I)J"⟩ : Cond) ∈ tb := List.mem_filter.mpr ⟨List.mem_of_getElem? (i := 240) (by decide +kernel), by decide +kernel⟩
theorem mw241 : (.instanceMethod ⟨"RoomEchoes$Axis", "squareTo", "(I)J"⟩ : Cond) ∈ tb := List.mem_filter.mpr ⟨List.mem_of_getElem? (i := 241) (by decide +kernel), by decide +kernel⟩
theorem mw242 : (.selects "RoomEchoes$Axis" ⟨"RoomEchoes$Axis", "squareTo", "(I)J"⟩ ⟨"RoomEchoes$Axis", "squareTo", "(I)J"⟩ : Cond) ∈ tb := List.mem_filter.mpr ⟨List.mem_of_getElem? (i := 242) (by decide +kernel), by decide +kernel⟩
theorem mw243 : (.code ⟨"RoomEchoes$Axis", "squareTo", "(I)J"⟩ prog_2_method_2_code 4 (some .long) : Cond) ∈ tb := List.mem_filter.mpr ⟨List.mem_of_getElem? (i := 243) (by decide +kernel), by decide +kernel⟩
theorem mw244 : (.methodLink "RoomEchoes$Axis" 23 ⟨"RoomEchoes$Axis", "imageAt", "(I)I"⟩ : Cond) ∈ tb := List.mem_filter.mpr ⟨List.mem_of_getElem? (i := 244) (by decide +kernel), by decide +kernel⟩
theorem mw246 : (.instanceMethod ⟨"RoomEchoes$Axis", "imageAt", "(I)I"⟩ : Cond) ∈ tb := List.mem_filter.mpr ⟨List.mem_of_getElem? (i := 246) (by decide +kernel), by decide +kernel⟩
theorem mw247 : (.code ⟨"RoomEchoes$Axis", "imageAt", "(I)I"⟩ prog_2_method_3_code 3 (some .int) : Cond) ∈ tb := List.mem_filter.mpr ⟨List.mem_of_getElem? (i := 247) (by decide +kernel), by decide +kernel⟩
theorem mw248 : (.methodLink "RoomEchoes" 74 ⟨"RoomEchoes", "strengthOf", "(III)J"⟩ : Cond) ∈ tb := List.mem_filter.mpr ⟨List.mem_of_getElem? (i := 248) (by decide +kernel), by decide +kernel⟩
theorem mw250 : (.instanceMethod ⟨"RoomEchoes", "strengthOf", "(III)J"⟩ : Cond) ∈ tb := List.mem_filter.mpr ⟨List.mem_of_getElem? (i := 250) (by decide +kernel), by decide +kernel⟩
theorem mw251 : (.code ⟨"RoomEchoes", "strengthOf", "(III)J"⟩ prog_1_method_19_code 8 (some .long) : Cond) ∈ tb := List.mem_filter.mpr ⟨List.mem_of_getElem? (i := 251) (by decide +kernel), by decide +kernel⟩
theorem mw252 : (.constantLong "RoomEchoes" 152 1000000000 : Cond) ∈ tb := List.mem_filter.mpr ⟨List.mem_of_getElem? (i := 252) (by decide +kernel), by decide +kernel⟩
theorem mw253 : (.methodLink "RoomEchoes" 154 ⟨"RoomEchoes", "strengthAfterAxis", "(JIII)J"⟩ : Cond) ∈ tb := List.mem_filter.mpr ⟨List.mem_of_getElem? (i := 253) (by decide +kernel), by decide +kernel⟩
theorem mw254 : (.static ⟨"RoomEchoes", "strengthAfterAxis", "(JIII)J"⟩ : Cond) ∈ tb := List.mem_filter.mpr ⟨List.mem_of_getElem? (i := 254) (by decide +kernel), by decide +kernel⟩
theorem mw255 : (.code ⟨"RoomEchoes", "strengthAfterAxis", "(JIII)J"⟩ prog_1_method_20_code 7 (some .long) : Cond) ∈ tb := List.mem_filter.mpr ⟨List.mem_of_getElem? (i := 255) (by decide +kernel), by decide +kernel⟩
theorem mw256 : (.methodLink "RoomEchoes" 157 ⟨"RoomEchoes", "hitsAtZero", "(I)I"⟩ : Cond) ∈ tb := List.mem_filter.mpr ⟨List.mem_of_getElem? (i := 256) (by decide +kernel), by decide +kernel⟩
theorem mw257 : (.static ⟨"RoomEchoes", "hitsAtZero", "(I)I"⟩ : Cond) ∈ tb := List.mem_filter.mpr ⟨List.mem_of_getElem? (i := 257) (by decide +kernel), by decide +kernel⟩
theorem mw258 : (.code ⟨"RoomEchoes", "hitsAtZero", "(I)I"⟩ prog_1_method_22_code 1 (some .int) : Cond) ∈ tb := List.mem_filter.mpr ⟨List.mem_of_getElem? (i := 258) (by decide +kernel), by decide +kernel⟩
theorem mw259 : (.methodLink "RoomEchoes" 160 ⟨"RoomEchoes", "strengthAfterHits", "(JII)J"⟩ : Cond) ∈ tb := List.mem_filter.mpr ⟨List.mem_of_getElem? (i := 259) (by decide +kernel), by decide +kernel⟩
theorem mw260 : (.static ⟨"RoomEchoes", "strengthAfterHits", "(JII)J"⟩ : Cond) ∈ tb := List.mem_filter.mpr ⟨List.mem_of_getElem? (i := 260) (by decide +kernel), by decide +kernel⟩
theorem mw261 : (.code ⟨"RoomEchoes", "strengthAfterHits", "(JII)J"⟩ prog_1_method_21_code 7 (some .long) : Cond) ∈ tb := List.mem_filter.mpr ⟨List.mem_of_getElem? (i := 261) (by decide +kernel), by decide +kernel⟩
theorem mw262 : (.constantLong "RoomEchoes" 123 1000 : Cond) ∈ tb := List.mem_filter.mpr ⟨List.mem_of_getElem? (i := 262) (by decide +kernel), by decide +kernel⟩
theorem mw263 : (.methodLink "RoomEchoes" 164 ⟨"RoomEchoes", "hitsAtSize", "(I)I"⟩ : Cond) ∈ tb := List.mem_filter.mpr ⟨List.mem_of_getElem? (i := 263) (by decide +kernel), by decide +kernel⟩
theorem mw264 : (.static ⟨"RoomEchoes", "hitsAtSize", "(I)I"⟩ : Cond) ∈ tb := List.mem_filter.mpr ⟨List.mem_of_getElem? (i := 264) (by decide +kernel), by decide +kernel⟩
theorem mw265 : (.code ⟨"RoomEchoes", "hitsAtSize", "(I)I"⟩ prog_1_method_23_code 1 (some .int) : Cond) ∈ tb := List.mem_filter.mpr ⟨List.mem_of_getElem? (i := 265) (by decide +kernel), by decide +kernel⟩
theorem mw266 : (.methodLink "RoomEchoes" 77 ⟨"RoomEchoes", "loudnessOf", "(JJ)J"⟩ : Cond) ∈ tb := List.mem_filter.mpr ⟨List.mem_of_getElem? (i := 266) (by decide +kernel), by decide +kernel⟩
theorem mw267 : (.static ⟨"RoomEchoes", "loudnessOf", "(JJ)J"⟩ : Cond) ∈ tb := List.mem_filter.mpr ⟨List.mem_of_getElem? (i := 267) (by decide +kernel), by decide +kernel⟩
theorem mw268 : (.code ⟨"RoomEchoes", "loudnessOf", "(JJ)J"⟩ prog_1_method_26_code 6 (some .long) : Cond) ∈ tb := List.mem_filter.mpr ⟨List.mem_of_getElem? (i := 268) (by decide +kernel), by decide +kernel⟩
theorem mw269 : (.methodLink "RoomEchoes" 81 ⟨"RoomEchoes", "hitsOf", "(III)I"⟩ : Cond) ∈ tb := List.mem_filter.mpr ⟨List.mem_of_getElem? (i := 269) (by decide +kernel), by decide +kernel⟩
theorem mw270 : (.static ⟨"RoomEchoes", "hitsOf", "(III)I"⟩ : Cond) ∈ tb := List.mem_filter.mpr ⟨List.mem_of_getElem? (i := 270) (by decide +kernel), by decide +kernel⟩
theorem mw271 : (.code ⟨"RoomEchoes", "hitsOf", "(III)I"⟩ prog_1_method_25_code 3 (some .int) : Cond) ∈ tb := List.mem_filter.mpr ⟨List.mem_of_getElem? (i := 271) (by decide +kernel), by decide +kernel⟩
theorem mw272 : (.methodLink "RoomEchoes" 167 ⟨"RoomEchoes", "hitsOn", "(I)I"⟩ : Cond) ∈ tb := List.mem_filter.mpr ⟨List.mem_of_getElem? (i := 272) (by decide +kernel), by decide +kernel⟩
theorem mw273 : (.static ⟨"RoomEchoes", "hitsOn", "(I)I"⟩ : Cond) ∈ tb := List.mem_filter.mpr ⟨List.mem_of_getElem? (i := 273) (by decide +kernel), by decide +kernel⟩
theorem mw274 : (.code ⟨"RoomEchoes", "hitsOn", "(I)I"⟩ prog_1_method_24_code 1 (some .int) : Cond) ∈ tb := List.mem_filter.mpr ⟨List.mem_of_getElem? (i := 274) (by decide +kernel), by decide +kernel⟩
theorem mw275 : (.methodLink "RoomEchoesLaw" 82 ⟨"RoomEchoesLaw", "echo", "(LRoomEchoes;II[J)I"⟩ : Cond) ∈ tb := List.mem_filter.mpr ⟨List.mem_of_getElem? (i := 275) (by decide +kernel), by decide +kernel⟩
theorem mw276 : (.static ⟨"RoomEchoesLaw", "echo", "(LRoomEchoes;II[J)I"⟩ : Cond) ∈ tb := List.mem_filter.mpr ⟨List.mem_of_getElem? (i := 276) (by decide +kernel), by decide +kernel⟩
theorem mw277 : (.codeWith ⟨"RoomEchoesLaw", "echo", "(LRoomEchoes;II[J)I"⟩ method_7_code 5 (some .int) [(0, 9, 12, 13)] : Cond) ∈ tb := List.mem_filter.mpr ⟨List.mem_of_getElem? (i := 277) (by decide +kernel), by decide +kernel⟩
theorem mw278 : (.methodLink "RoomEchoesLaw" 26 ⟨"RoomEchoes", "echo", "(II)J"⟩ : Cond) ∈ tb := List.mem_filter.mpr ⟨List.mem_of_getElem? (i := 278) (by decide +kernel), by decide +kernel⟩
theorem mw279 : (.instanceMethod ⟨"RoomEchoes", "echo", "(II)J"⟩ : Cond) ∈ tb := List.mem_filter.mpr ⟨List.mem_of_getElem? (i := 279) (by decide +kernel), by decide +kernel⟩
theorem mw280 : (.selects "RoomEchoes" ⟨"RoomEchoes", "echo", "(II)J"⟩ ⟨"RoomEchoes", "echo", "(II)J"⟩ : Cond) ∈ tb := List.mem_filter.mpr ⟨List.mem_of_getElem? (i := 280) (by decide +kernel), by decide +kernel⟩
theorem mw281 : (.code ⟨"RoomEchoes", "echo", "(II)J"⟩ prog_1_method_6_code 8 (some .long) : Cond) ∈ tb := List.mem_filter.mpr ⟨List.mem_of_getElem? (i := 281) (by decide +kernel), by decide +kernel⟩
theorem mw282 : (.methodLink "RoomEchoes" 85 ⟨"RoomEchoes", "orderEchoes", "()V"⟩ : Cond) ∈ tb := List.mem_filter.mpr ⟨List.mem_of_getElem? (i := 282) (by decide +kernel), by decide +kernel⟩
theorem mw284 : (.instanceMethod ⟨"RoomEchoes", "orderEchoes", "()V"⟩ : Cond) ∈ tb := List.mem_filter.mpr ⟨List.mem_of_getElem? (i := 284) (by decide +kernel), by decide +kernel⟩
theorem mw285 : (.code ⟨"RoomEchoes", "orderEchoes", "()V"⟩ prog_1_method_35_code 4 none : Cond) ∈ tb := List.mem_filter.mpr ⟨List.mem_of_getElem? (i := 285) (by decide +kernel), by decide +kernel⟩
theorem mw286 : (.methodLink "RoomEchoes" 182 ⟨"RoomEchoes$Axis", "order", "()V"⟩ : Cond) ∈ tb := List.mem_filter.mpr ⟨List.mem_of_getElem? (i := 286) (by decide +kernel), by decide +kernel⟩
theorem mw287 : (.instanceMethod ⟨"RoomEchoes$Axis", "order", "()V"⟩ : Cond) ∈ tb := List.mem_filter.mpr ⟨List.mem_of_getElem? (i := 287) (by decide +kernel), by decide +kernel⟩
theorem mw288 : (.selects "RoomEchoes$Axis" ⟨"RoomEchoes$Axis", "order", "()V"⟩ ⟨"RoomEchoes$Axis", "order", "()V"⟩ : Cond) ∈ tb := List.mem_filter.mpr ⟨List.mem_of_getElem? (i := 288) (by decide +kernel), by decide +kernel⟩
theorem mw289 : (.code ⟨"RoomEchoes$Axis", "order", "()V"⟩ prog_2_method_4_code 3 none : Cond) ∈ tb := List.mem_filter.mpr ⟨List.mem_of_getElem? (i := 289) (by decide +kernel), by decide +kernel⟩
theorem mw290 : (.methodLink "RoomEchoes$Axis" 33 ⟨"RoomEchoes$Axis", "insert", "(II)V"⟩ : Cond) ∈ tb := List.mem_filter.mpr ⟨List.mem_of_getElem? (i := 290) (by decide +kernel), by decide +kernel⟩
theorem mw292 : (.instanceMethod ⟨"RoomEchoes$Axis", "insert", "(II)V"⟩ : Cond) ∈ tb := List.mem_filter.mpr ⟨List.mem_of_getElem? (i := 292) (by decide +kernel), by decide +kernel⟩
theorem mw293 : (.code ⟨"RoomEchoes$Axis", "insert", "(II)V"⟩ prog_2_method_5_code 6 none : Cond) ∈ tb := List.mem_filter.mpr ⟨List.mem_of_getElem? (i := 293) (by decide +kernel), by decide +kernel⟩
theorem mw294 : (.methodLink "RoomEchoes$Axis" 40 ⟨"RoomEchoes$Axis", "squareTo", "(I)J"⟩ : Cond) ∈ tb := List.mem_filter.mpr ⟨List.mem_of_getElem? (i := 294) (by decide +kernel), by decide +kernel⟩
theorem mw296 : (.static ⟨"RoomEchoes", "withNumberBelow", "(JI)J"⟩ : Cond) ∈ tb := List.mem_filter.mpr ⟨List.mem_of_getElem? (i := 296) (by decide +kernel), by decide +kernel⟩
theorem mw297 : (.code ⟨"RoomEchoes", "withNumberBelow", "(JI)J"⟩ prog_1_method_28_code 3 (some .long) : Cond) ∈ tb := List.mem_filter.mpr ⟨List.mem_of_getElem? (i := 297) (by decide +kernel), by decide +kernel⟩
theorem mw298 : (.methodLink "RoomEchoes$Axis" 37 ⟨"RoomEchoes$Axis", "numberAt", "(I)I"⟩ : Cond) ∈ tb := List.mem_filter.mpr ⟨List.mem_of_getElem? (i := 298) (by decide +kernel), by decide +kernel⟩
theorem mw299 : (.instanceMethod ⟨"RoomEchoes$Axis", "numberAt", "(I)I"⟩ : Cond) ∈ tb := List.mem_filter.mpr ⟨List.mem_of_getElem? (i := 299) (by decide +kernel), by decide +kernel⟩
theorem mw300 : (.selects "RoomEchoes$Axis" ⟨"RoomEchoes$Axis", "numberAt", "(I)I"⟩ ⟨"RoomEchoes$Axis", "numberAt", "(I)I"⟩ : Cond) ∈ tb := List.mem_filter.mpr ⟨List.mem_of_getElem? (i := 300) (by decide +kernel), by decide +kernel⟩
theorem mw301 : (.code ⟨"RoomEchoes$Axis", "numberAt", "(I)I"⟩ prog_2_method_7_code 2 (some .int) : Cond) ∈ tb := List.mem_filter.mpr ⟨List.mem_of_getElem? (i := 301) (by decide +kernel), by decide +kernel⟩
theorem mw303 : (.static ⟨"RoomEchoes", "lowestNumberIn", "(J)I"⟩ : Cond) ∈ tb := List.mem_filter.mpr ⟨List.mem_of_getElem? (i := 303) (by decide +kernel), by decide +kernel⟩
theorem mw304 : (.code ⟨"RoomEchoes", "lowestNumberIn", "(J)I"⟩ prog_1_method_29_code 2 (some .int) : Cond) ∈ tb := List.mem_filter.mpr ⟨List.mem_of_getElem? (i := 304) (by decide +kernel), by decide +kernel⟩
theorem mw305 : (.constantLong "RoomEchoes" 174 127 : Cond) ∈ tb := List.mem_filter.mpr ⟨List.mem_of_getElem? (i := 305) (by decide +kernel), by decide +kernel⟩
theorem mw306 : (.methodLink "RoomEchoes" 185 ⟨"RoomEchoes$Frontier", "clear", "()V"⟩ : Cond) ∈ tb := List.mem_filter.mpr ⟨List.mem_of_getElem? (i := 306) (by decide +kernel), by decide +kernel⟩
theorem mw307 : (.instanceMethod ⟨"RoomEchoes$Frontier", "clear", "()V"⟩ : Cond) ∈ tb := List.mem_filter.mpr ⟨List.mem_of_getElem? (i := 307) (by decide +kernel), by decide +kernel⟩
theorem mw308 : (.selects "RoomEchoes$Frontier" ⟨"RoomEchoes$Frontier", "clear", "()V"⟩ ⟨"RoomEchoes$Frontier", "clear", "()V"⟩ : Cond) ∈ tb := List.mem_filter.mpr ⟨List.mem_of_getElem? (i := 308) (by decide +kernel), by decide +kernel⟩
theorem mw309 : (.code ⟨"RoomEchoes$Frontier", "clear", "()V"⟩ prog_3_method_2_code 1 none : Cond) ∈ tb := List.mem_filter.mpr ⟨List.mem_of_getElem? (i := 309) (by decide +kernel), by decide +kernel⟩
theorem mw310 : (.methodLink "RoomEchoes" 188 ⟨"RoomEchoes", "addAtRanks", "(III)V"⟩ : Cond) ∈ tb := List.mem_filter.mpr ⟨List.mem_of_getElem? (i := 310) (by decide +kernel), by decide +kernel⟩
theorem mw312 : (.instanceMethod ⟨"RoomEchoes", "addAtRanks", "(III)V"⟩ : Cond) ∈ tb := List.mem_filter.mpr ⟨List.mem_of_getElem? (i := 312) (by decide +kernel), by decide +kernel⟩
theorem mw313 : (.code ⟨"RoomEchoes", "addAtRanks", "(III)V"⟩ prog_1_method_37_code 6 none : Cond) ∈ tb := List.mem_filter.mpr ⟨List.mem_of_getElem? (i := 313) (by decide +kernel), by decide +kernel⟩
theorem mw314 : (.methodLink "RoomEchoes" 201 ⟨"RoomEchoes$Axis", "squareAt", "(I)J"⟩ : Cond) ∈ tb := List.mem_filter.mpr ⟨List.mem_of_getElem? (i := 314) (by decide +kernel), by decide +kernel⟩
theorem mw315 : (.instanceMethod ⟨"RoomEchoes$Axis", "squareAt", "(I)J"⟩ : Cond) ∈ tb := List.mem_filter.mpr ⟨List.mem_of_getElem? (i := 315) (by decide +kernel), by decide +kernel⟩
theorem mw316 : (.selects "RoomEchoes$Axis" ⟨"RoomEchoes$Axis", "squareAt", "(I)J"⟩ ⟨"RoomEchoes$Axis", "squareAt", "(I)J"⟩ : Cond) ∈ tb := List.mem_filter.mpr ⟨List.mem_of_getElem? (i := 316) (by decide +kernel), by decide +kernel⟩
theorem mw317 : (.code ⟨"RoomEchoes$Axis", "squareAt", "(I)J"⟩ prog_2_method_6_code 2 (some .long) : Cond) ∈ tb := List.mem_filter.mpr ⟨List.mem_of_getElem? (i := 317) (by decide +kernel), by decide +kernel⟩
theorem mw318 : (.methodLink "RoomEchoes" 204 ⟨"RoomEchoes$Axis", "numberAt", "(I)I"⟩ : Cond) ∈ tb := List.mem_filter.mpr ⟨List.mem_of_getElem? (i := 318) (by decide +kernel), by decide +kernel⟩
theorem mw319 : (.methodLink "RoomEchoes" 102 ⟨"RoomEchoes", "keyOf", "(JIII)J"⟩ : Cond) ∈ tb := List.mem_filter.mpr ⟨List.mem_of_getElem? (i := 319) (by decide +kernel), by decide +kernel⟩
theorem mw320 : (.static ⟨"RoomEchoes", "keyOf", "(JIII)J"⟩ : Cond) ∈ tb := List.mem_filter.mpr ⟨List.mem_of_getElem? (i := 320) (by decide +kernel), by decide +kernel⟩
theorem mw321 : (.code ⟨"RoomEchoes", "keyOf", "(JIII)J"⟩ prog_1_method_27_code 7 (some .long) : Cond) ∈ tb := List.mem_filter.mpr ⟨List.mem_of_getElem? (i := 321) (by decide +kernel), by decide +kernel⟩
theorem mw322 : (.methodLink "RoomEchoes" 170 ⟨"RoomEchoes", "withNumberBelow", "(JI)J"⟩ : Cond) ∈ tb := List.mem_filter.mpr ⟨List.mem_of_getElem? (i := 322) (by decide +kernel), by decide +kernel⟩
theorem mw323 : (.methodLink "RoomEchoes" 207 ⟨"RoomEchoes$Frontier", "add", "(J)V"⟩ : Cond) ∈ tb := List.mem_filter.mpr ⟨List.mem_of_getElem? (i := 323) (by decide +kernel), by decide +kernel⟩
theorem mw324 : (.instanceMethod ⟨"RoomEchoes$Frontier", "add", "(J)V"⟩ : Cond) ∈ tb := List.mem_filter.mpr ⟨List.mem_of_getElem? (i := 324) (by decide +kernel), by decide +kernel⟩
theorem mw325 : (.selects "RoomEchoes$Frontier" ⟨"RoomEchoes$Frontier", "add", "(J)V"⟩ ⟨"RoomEchoes$Frontier", "add", "(J)V"⟩ : Cond) ∈ tb := List.mem_filter.mpr ⟨List.mem_of_getElem? (i := 325) (by decide +kernel), by decide +kernel⟩
theorem mw326 : (.code ⟨"RoomEchoes$Frontier", "add", "(J)V"⟩ prog_3_method_3_code 4 none : Cond) ∈ tb := List.mem_filter.mpr ⟨List.mem_of_getElem? (i := 326) (by decide +kernel), by decide +kernel⟩
theorem mw327 : (.methodLink "RoomEchoes" 191 ⟨"RoomEchoes$Frontier", "takeLeast", "()J"⟩ : Cond) ∈ tb := List.mem_filter.mpr ⟨List.mem_of_getElem? (i := 327) (by decide +kernel), by decide +kernel⟩
theorem mw328 : (.instanceMethod ⟨"RoomEchoes$Frontier", "takeLeast", "()J"⟩ : Cond) ∈ tb := List.mem_filter.mpr ⟨List.mem_of_getElem? (i := 328) (by decide +kernel), by decide +kernel⟩
theorem mw329 : (.selects "RoomEchoes$Frontier" ⟨"RoomEchoes$Frontier", "takeLeast", "()J"⟩ ⟨"RoomEchoes$Frontier", "takeLeast", "()J"⟩ : Cond) ∈ tb := List.mem_filter.mpr ⟨List.mem_of_getElem? (i := 329) (by decide +kernel), by decide +kernel⟩
theorem mw330 : (.code ⟨"RoomEchoes$Frontier", "takeLeast", "()J"⟩ prog_3_method_4_code 3 (some .long) : Cond) ∈ tb := List.mem_filter.mpr ⟨List.mem_of_getElem? (i := 330) (by decide +kernel), by decide +kernel⟩
theorem mw331 : (.methodLink "RoomEchoes$Frontier" 19 ⟨"RoomEchoes$Frontier", "sinkFromTop", "(J)V"⟩ : Cond) ∈ tb := List.mem_filter.mpr ⟨List.mem_of_getElem? (i := 331) (by decide +kernel), by decide +kernel⟩
end
section
theorem mw333 : (.instanceMethod ⟨"RoomEchoes$Frontier", "sinkFromTop", "(J)V"⟩ : Cond) ∈ tb := List.mem_filter.mpr ⟨List.mem_of_getElem? (i := 333) (by decide +kernel), by decide +kernel⟩
theorem mw334 : (.code ⟨"RoomEchoes$Frontier", "sinkFromTop", "(J)V"⟩ prog_3_method_5_code 5 none : Cond) ∈ tb := List.mem_filter.mpr ⟨List.mem_of_getElem? (i := 334) (by decide +kernel), by decide +kernel⟩
theorem mw335 : (.methodLink "RoomEchoes$Frontier" 23 ⟨"RoomEchoes$Frontier", "lesserOf", "(I)I"⟩ : Cond) ∈ tb := List.mem_filter.mpr ⟨List.mem_of_getElem? (i := 335) (by decide +kernel), by decide +kernel⟩
theorem mw337 : (.instanceMethod ⟨"RoomEchoes$Frontier", "lesserOf", "(I)I"⟩ : Cond) ∈ tb := List.mem_filter.mpr ⟨List.mem_of_getElem? (i := 337) (by decide +kernel), by decide +kernel⟩
theorem mw338 : (.code ⟨"RoomEchoes$Frontier", "lesserOf", "(I)I"⟩ prog_3_method_6_code 3 (some .int) : Cond) ∈ tb := List.mem_filter.mpr ⟨List.mem_of_getElem? (i := 338) (by decide +kernel), by decide +kernel⟩
theorem mw339 : (.methodLink "RoomEchoes" 195 ⟨"RoomEchoes", "addFollowers", "(J)V"⟩ : Cond) ∈ tb := List.mem_filter.mpr ⟨List.mem_of_getElem? (i := 339) (by decide +kernel), by decide +kernel⟩
theorem mw341 : (.instanceMethod ⟨"RoomEchoes", "addFollowers", "(J)V"⟩ : Cond) ∈ tb := List.mem_filter.mpr ⟨List.mem_of_getElem? (i := 341) (by decide +kernel), by decide +kernel⟩
theorem mw342 : (.code ⟨"RoomEchoes", "addFollowers", "(J)V"⟩ prog_1_method_36_code 6 none : Cond) ∈ tb := List.mem_filter.mpr ⟨List.mem_of_getElem? (i := 342) (by decide +kernel), by decide +kernel⟩
theorem mw343 : (.methodLink "RoomEchoes" 88 ⟨"RoomEchoes", "firstNumberIn", "(J)I"⟩ : Cond) ∈ tb := List.mem_filter.mpr ⟨List.mem_of_getElem? (i := 343) (by decide +kernel), by decide +kernel⟩
theorem mw344 : (.static ⟨"RoomEchoes", "firstNumberIn", "(J)I"⟩ : Cond) ∈ tb := List.mem_filter.mpr ⟨List.mem_of_getElem? (i := 344) (by decide +kernel), by decide +kernel⟩
theorem mw345 : (.code ⟨"RoomEchoes", "firstNumberIn", "(J)I"⟩ prog_1_method_31_code 2 (some .int) : Cond) ∈ tb := List.mem_filter.mpr ⟨List.mem_of_getElem? (i := 345) (by decide +kernel), by decide +kernel⟩
theorem mw346 : (.methodLink "RoomEchoes" 176 ⟨"RoomEchoes", "lowestNumberIn", "(J)I"⟩ : Cond) ∈ tb := List.mem_filter.mpr ⟨List.mem_of_getElem? (i := 346) (by decide +kernel), by decide +kernel⟩
theorem mw347 : (.methodLink "RoomEchoes" 198 ⟨"RoomEchoes$Axis", "rankOf", "(I)I"⟩ : Cond) ∈ tb := List.mem_filter.mpr ⟨List.mem_of_getElem? (i := 347) (by decide +kernel), by decide +kernel⟩
theorem mw348 : (.instanceMethod ⟨"RoomEchoes$Axis", "rankOf", "(I)I"⟩ : Cond) ∈ tb := List.mem_filter.mpr ⟨List.mem_of_getElem? (i := 348) (by decide +kernel), by decide +kernel⟩
theorem mw349 : (.selects "RoomEchoes$Axis" ⟨"RoomEchoes$Axis", "rankOf", "(I)I"⟩ ⟨"RoomEchoes$Axis", "rankOf", "(I)I"⟩ : Cond) ∈ tb := List.mem_filter.mpr ⟨List.mem_of_getElem? (i := 349) (by decide +kernel), by decide +kernel⟩
theorem mw350 : (.code ⟨"RoomEchoes$Axis", "rankOf", "(I)I"⟩ prog_2_method_8_code 3 (some .int) : Cond) ∈ tb := List.mem_filter.mpr ⟨List.mem_of_getElem? (i := 350) (by decide +kernel), by decide +kernel⟩
theorem mw351 : (.methodLink "RoomEchoes" 92 ⟨"RoomEchoes", "secondNumberIn", "(J)I"⟩ : Cond) ∈ tb := List.mem_filter.mpr ⟨List.mem_of_getElem? (i := 351) (by decide +kernel), by decide +kernel⟩
theorem mw352 : (.static ⟨"RoomEchoes", "secondNumberIn", "(J)I"⟩ : Cond) ∈ tb := List.mem_filter.mpr ⟨List.mem_of_getElem? (i := 352) (by decide +kernel), by decide +kernel⟩
theorem mw353 : (.code ⟨"RoomEchoes", "secondNumberIn", "(J)I"⟩ prog_1_method_32_code 2 (some .int) : Cond) ∈ tb := List.mem_filter.mpr ⟨List.mem_of_getElem? (i := 353) (by decide +kernel), by decide +kernel⟩
theorem mw354 : (.methodLink "RoomEchoes" 95 ⟨"RoomEchoes", "thirdNumberIn", "(J)I"⟩ : Cond) ∈ tb := List.mem_filter.mpr ⟨List.mem_of_getElem? (i := 354) (by decide +kernel), by decide +kernel⟩
theorem mw355 : (.static ⟨"RoomEchoes", "thirdNumberIn", "(J)I"⟩ : Cond) ∈ tb := List.mem_filter.mpr ⟨List.mem_of_getElem? (i := 355) (by decide +kernel), by decide +kernel⟩
theorem mw356 : (.code ⟨"RoomEchoes", "thirdNumberIn", "(J)I"⟩ prog_1_method_33_code 2 (some .int) : Cond) ∈ tb := List.mem_filter.mpr ⟨List.mem_of_getElem? (i := 356) (by decide +kernel), by decide +kernel⟩
theorem mw357 : (.methodLink "RoomEchoes" 98 ⟨"RoomEchoes", "image", "(IIII)J"⟩ : Cond) ∈ tb := List.mem_filter.mpr ⟨List.mem_of_getElem? (i := 357) (by decide +kernel), by decide +kernel⟩
theorem mw358 : (.methodLink "RoomEchoesLaw" 85 ⟨"RoomEchoesLaw", "place", "(LRoomEchoes;III[J)I"⟩ : Cond) ∈ tb := List.mem_filter.mpr ⟨List.mem_of_getElem? (i := 358) (by decide +kernel), by decide +kernel⟩
theorem mw359 : (.static ⟨"RoomEchoesLaw", "place", "(LRoomEchoes;III[J)I"⟩ : Cond) ∈ tb := List.mem_filter.mpr ⟨List.mem_of_getElem? (i := 359) (by decide +kernel), by decide +kernel⟩
theorem mw360 : (.codeWith ⟨"RoomEchoesLaw", "place", "(LRoomEchoes;III[J)I"⟩ method_8_code 6 (some .int) [(0, 12, 15, 13)] : Cond) ∈ tb := List.mem_filter.mpr ⟨List.mem_of_getElem? (i := 360) (by decide +kernel), by decide +kernel⟩
theorem mw361 : (.methodLink "RoomEchoesLaw" 30 ⟨"RoomEchoes", "place", "(III)I"⟩ : Cond) ∈ tb := List.mem_filter.mpr ⟨List.mem_of_getElem? (i := 361) (by decide +kernel), by decide +kernel⟩
theorem mw362 : (.instanceMethod ⟨"RoomEchoes", "place", "(III)I"⟩ : Cond) ∈ tb := List.mem_filter.mpr ⟨List.mem_of_getElem? (i := 362) (by decide +kernel), by decide +kernel⟩
theorem mw363 : (.selects "RoomEchoes" ⟨"RoomEchoes", "place", "(III)I"⟩ ⟨"RoomEchoes", "place", "(III)I"⟩ : Cond) ∈ tb := List.mem_filter.mpr ⟨List.mem_of_getElem? (i := 363) (by decide +kernel), by decide +kernel⟩
theorem mw364 : (.code ⟨"RoomEchoes", "place", "(III)I"⟩ prog_1_method_7_code 7 (some .int) : Cond) ∈ tb := List.mem_filter.mpr ⟨List.mem_of_getElem? (i := 364) (by decide +kernel), by decide +kernel⟩
theorem mw365 : (.methodLink "RoomEchoesLaw" 91 ⟨"RoomEchoesLaw", "until", "(LRoomEchoes;J[J)I"⟩ : Cond) ∈ tb := List.mem_filter.mpr ⟨List.mem_of_getElem? (i := 365) (by decide +kernel), by decide +kernel⟩
theorem mw366 : (.static ⟨"RoomEchoesLaw", "until", "(LRoomEchoes;J[J)I"⟩ : Cond) ∈ tb := List.mem_filter.mpr ⟨List.mem_of_getElem? (i := 366) (by decide +kernel), by decide +kernel⟩
theorem mw367 : (.codeWith ⟨"RoomEchoesLaw", "until", "(LRoomEchoes;J[J)I"⟩ method_9_code 5 (some .int) [(0, 9, 12, 13)] : Cond) ∈ tb := List.mem_filter.mpr ⟨List.mem_of_getElem? (i := 367) (by decide +kernel), by decide +kernel⟩
theorem mw368 : (.methodLink "RoomEchoesLaw" 34 ⟨"RoomEchoes", "until", "(J)I"⟩ : Cond) ∈ tb := List.mem_filter.mpr ⟨List.mem_of_getElem? (i := 368) (by decide +kernel), by decide +kernel⟩
theorem mw369 : (.instanceMethod ⟨"RoomEchoes", "until", "(J)I"⟩ : Cond) ∈ tb := List.mem_filter.mpr ⟨List.mem_of_getElem? (i := 369) (by decide +kernel), by decide +kernel⟩
theorem mw370 : (.selects "RoomEchoes" ⟨"RoomEchoes", "until", "(J)I"⟩ ⟨"RoomEchoes", "until", "(J)I"⟩ : Cond) ∈ tb := List.mem_filter.mpr ⟨List.mem_of_getElem? (i := 370) (by decide +kernel), by decide +kernel⟩
theorem mw371 : (.code ⟨"RoomEchoes", "until", "(J)I"⟩ prog_1_method_8_code 3 (some .int) : Cond) ∈ tb := List.mem_filter.mpr ⟨List.mem_of_getElem? (i := 371) (by decide +kernel), by decide +kernel⟩
theorem mw372 : (.methodLink "RoomEchoes" 106 ⟨"RoomEchoes", "requireDistance", "(J)V"⟩ : Cond) ∈ tb := List.mem_filter.mpr ⟨List.mem_of_getElem? (i := 372) (by decide +kernel), by decide +kernel⟩
theorem mw373 : (.static ⟨"RoomEchoes", "requireDistance", "(J)V"⟩ : Cond) ∈ tb := List.mem_filter.mpr ⟨List.mem_of_getElem? (i := 373) (by decide +kernel), by decide +kernel⟩
theorem mw374 : (.code ⟨"RoomEchoes", "requireDistance", "(J)V"⟩ prog_1_method_15_code 2 none : Cond) ∈ tb := List.mem_filter.mpr ⟨List.mem_of_getElem? (i := 374) (by decide +kernel), by decide +kernel⟩
theorem mw376 : (.methodLink "RoomEchoes" 110 ⟨"RoomEchoes", "countWithin", "(J)I"⟩ : Cond) ∈ tb := List.mem_filter.mpr ⟨List.mem_of_getElem? (i := 376) (by decide +kernel), by decide +kernel⟩
theorem mw378 : (.instanceMethod ⟨"RoomEchoes", "countWithin", "(J)I"⟩ : Cond) ∈ tb := List.mem_filter.mpr ⟨List.mem_of_getElem? (i := 378) (by decide +kernel), by decide +kernel⟩
theorem mw379 : (.code ⟨"RoomEchoes", "countWithin", "(J)I"⟩ prog_1_method_39_code 4 (some .int) : Cond) ∈ tb := List.mem_filter.mpr ⟨List.mem_of_getElem? (i := 379) (by decide +kernel), by decide +kernel⟩
theorem mw380 : (.methodLink "RoomEchoes" 210 ⟨"RoomEchoes", "distanceIn", "(J)J"⟩ : Cond) ∈ tb := List.mem_filter.mpr ⟨List.mem_of_getElem? (i := 380) (by decide +kernel), by decide +kernel⟩
theorem mw381 : (.static ⟨"RoomEchoes", "distanceIn", "(J)J"⟩ : Cond) ∈ tb := List.mem_filter.mpr ⟨List.mem_of_getElem? (i := 381) (by decide +kernel), by decide +kernel⟩
theorem mw382 : (.code ⟨"RoomEchoes", "distanceIn", "(J)J"⟩ prog_1_method_30_code 2 (some .long) : Cond) ∈ tb := List.mem_filter.mpr ⟨List.mem_of_getElem? (i := 382) (by decide +kernel), by decide +kernel⟩
theorem mw383 : (.methodLink "RoomEchoesLaw" 95 ⟨"RoomEchoesLaw", "loud", "(LRoomEchoes;II[J)I"⟩ : Cond) ∈ tb := List.mem_filter.mpr ⟨List.mem_of_getElem? (i := 383) (by decide +kernel), by decide +kernel⟩
theorem mw384 : (.static ⟨"RoomEchoesLaw", "loud", "(LRoomEchoes;II[J)I"⟩ : Cond) ∈ tb := List.mem_filter.mpr ⟨List.mem_of_getElem? (i := 384) (by decide +kernel), by decide +kernel⟩
theorem mw385 : (.codeWith ⟨"RoomEchoesLaw", "loud", "(LRoomEchoes;II[J)I"⟩ method_10_code 5 (some .int) [(0, 9, 12, 13)] : Cond) ∈ tb := List.mem_filter.mpr ⟨List.mem_of_getElem? (i := 385) (by decide +kernel), by decide +kernel⟩
theorem mw386 : (.methodLink "RoomEchoesLaw" 38 ⟨"RoomEchoes", "loud", "(II)J"⟩ : Cond) ∈ tb := List.mem_filter.mpr ⟨List.mem_of_getElem? (i := 386) (by decide +kernel), by decide +kernel⟩
theorem mw387 : (.instanceMethod ⟨"RoomEchoes", "loud", "(II)J"⟩ : Cond) ∈ tb := List.mem_filter.mpr ⟨List.mem_of_getElem? (i := 387) (by decide +kernel), by decide +kernel⟩
theorem mw388 : (.selects "RoomEchoes" ⟨"RoomEchoes", "loud", "(II)J"⟩ ⟨"RoomEchoes", "loud", "(II)J"⟩ : Cond) ∈ tb := List.mem_filter.mpr ⟨List.mem_of_getElem? (i := 388) (by decide +kernel), by decide +kernel⟩
theorem mw389 : (.code ⟨"RoomEchoes", "loud", "(II)J"⟩ prog_1_method_9_code 3 (some .long) : Cond) ∈ tb := List.mem_filter.mpr ⟨List.mem_of_getElem? (i := 389) (by decide +kernel), by decide +kernel⟩
theorem mw390 : (.methodLink "RoomEchoes" 113 ⟨"RoomEchoes", "weighEchoes", "()V"⟩ : Cond) ∈ tb := List.mem_filter.mpr ⟨List.mem_of_getElem? (i := 390) (by decide +kernel), by decide +kernel⟩
theorem mw392 : (.instanceMethod ⟨"RoomEchoes", "weighEchoes", "()V"⟩ : Cond) ∈ tb := List.mem_filter.mpr ⟨List.mem_of_getElem? (i := 392) (by decide +kernel), by decide +kernel⟩
theorem mw393 : (.code ⟨"RoomEchoes", "weighEchoes", "()V"⟩ prog_1_method_38_code 6 none : Cond) ∈ tb := List.mem_filter.mpr ⟨List.mem_of_getElem? (i := 393) (by decide +kernel), by decide +kernel⟩
theorem mw394 : (.methodLink "RoomEchoes" 116 ⟨"RoomEchoes", "loudnessBetween", "(II)J"⟩ : Cond) ∈ tb := List.mem_filter.mpr ⟨List.mem_of_getElem? (i := 394) (by decide +kernel), by decide +kernel⟩
theorem mw396 : (.instanceMethod ⟨"RoomEchoes", "loudnessBetween", "(II)J"⟩ : Cond) ∈ tb := List.mem_filter.mpr ⟨List.mem_of_getElem? (i := 396) (by decide +kernel), by decide +kernel⟩
theorem mw397 : (.code ⟨"RoomEchoes", "loudnessBetween", "(II)J"⟩ prog_1_method_40_code 6 (some .long) : Cond) ∈ tb := List.mem_filter.mpr ⟨List.mem_of_getElem? (i := 397) (by decide +kernel), by decide +kernel⟩
theorem mw398 : (.methodLink "RoomEchoesLaw" 98 ⟨"RoomEchoesLaw", "early", "(LRoomEchoes;JI[J)I"⟩ : Cond) ∈ tb := List.mem_filter.mpr ⟨List.mem_of_getElem? (i := 398) (by decide +kernel), by decide +kernel⟩
theorem mw399 : (.static ⟨"RoomEchoesLaw", "early", "(LRoomEchoes;JI[J)I"⟩ : Cond) ∈ tb := List.mem_filter.mpr ⟨List.mem_of_getElem? (i := 399) (by decide +kernel), by decide +kernel⟩
theorem mw400 : (.codeWith ⟨"RoomEchoesLaw", "early", "(LRoomEchoes;JI[J)I"⟩ method_11_code 6 (some .int) [(0, 10, 13, 13)] : Cond) ∈ tb := List.mem_filter.mpr ⟨List.mem_of_getElem? (i := 400) (by decide +kernel), by decide +kernel⟩
theorem mw401 : (.methodLink "RoomEchoesLaw" 41 ⟨"RoomEchoes", "early", "(JI)J"⟩ : Cond) ∈ tb := List.mem_filter.mpr ⟨List.mem_of_getElem? (i := 401) (by decide +kernel), by decide +kernel⟩
theorem mw402 : (.instanceMethod ⟨"RoomEchoes", "early", "(JI)J"⟩ : Cond) ∈ tb := List.mem_filter.mpr ⟨List.mem_of_getElem? (i := 402) (by decide +kernel), by decide +kernel⟩
theorem mw403 : (.selects "RoomEchoes" ⟨"RoomEchoes", "early", "(JI)J"⟩ ⟨"RoomEchoes", "early", "(JI)J"⟩ : Cond) ∈ tb := List.mem_filter.mpr ⟨List.mem_of_getElem? (i := 403) (by decide +kernel), by decide +kernel⟩
theorem mw404 : (.code ⟨"RoomEchoes", "early", "(JI)J"⟩ prog_1_method_10_code 10 (some .long) : Cond) ∈ tb := List.mem_filter.mpr ⟨List.mem_of_getElem? (i := 404) (by decide +kernel), by decide +kernel⟩
theorem mw405 : (.methodLink "RoomEchoes" 120 ⟨"RoomEchoes", "greatestCommonDivisor", "(JJ)J"⟩ : Cond) ∈ tb := List.mem_filter.mpr ⟨List.mem_of_getElem? (i := 405) (by decide +kernel), by decide +kernel⟩
theorem mw406 : (.static ⟨"RoomEchoes", "greatestCommonDivisor", "(JJ)J"⟩ : Cond) ∈ tb := List.mem_filter.mpr ⟨List.mem_of_getElem? (i := 406) (by decide +kernel), by decide +kernel⟩
theorem mw407 : (.code ⟨"RoomEchoes", "greatestCommonDivisor", "(JJ)J"⟩ prog_1_method_41_code 11 (some .long) : Cond) ∈ tb := List.mem_filter.mpr ⟨List.mem_of_getElem? (i := 407) (by decide +kernel), by decide +kernel⟩
theorem mw408 : (.methodLink "RoomEchoesLaw" 102 ⟨"RoomEchoesLaw", "enough", "(LRoomEchoes;I[J)I"⟩ : Cond) ∈ tb := List.mem_filter.mpr ⟨List.mem_of_getElem? (i := 408) (by decide +kernel), by decide +kernel⟩
theorem mw409 : (.static ⟨"RoomEchoesLaw", "enough", "(LRoomEchoes;I[J)I"⟩ : Cond) ∈ tb := List.mem_filter.mpr ⟨List.mem_of_getElem? (i := 409) (by decide +kernel), by decide +kernel⟩
theorem mw410 : (.codeWith ⟨"RoomEchoesLaw", "enough", "(LRoomEchoes;I[J)I"⟩ method_12_code 4 (some .int) [(0, 9, 12, 13)] : Cond) ∈ tb := List.mem_filter.mpr ⟨List.mem_of_getElem? (i := 410) (by decide +kernel), by decide +kernel⟩
theorem mw411 : (.methodLink "RoomEchoesLaw" 45 ⟨"RoomEchoes", "enough", "(I)I"⟩ : Cond) ∈ tb := List.mem_filter.mpr ⟨List.mem_of_getElem? (i := 411) (by decide +kernel), by decide +kernel⟩
theorem mw412 : (.instanceMethod ⟨"RoomEchoes", "enough", "(I)I"⟩ : Cond) ∈ tb := List.mem_filter.mpr ⟨List.mem_of_getElem? (i := 412) (by decide +kernel), by decide +kernel⟩
theorem mw413 : (.selects "RoomEchoes" ⟨"RoomEchoes", "enough", "(I)I"⟩ ⟨"RoomEchoes", "enough", "(I)I"⟩ : Cond) ∈ tb := List.mem_filter.mpr ⟨List.mem_of_getElem? (i := 413) (by decide +kernel), by decide +kernel⟩
theorem mw414 : (.code ⟨"RoomEchoes", "enough", "(I)I"⟩ prog_1_method_11_code 7 (some .int) : Cond) ∈ tb := List.mem_filter.mpr ⟨List.mem_of_getElem? (i := 414) (by decide +kernel), by decide +kernel⟩
theorem mw415 : (.methodLink "RoomEchoesLaw" 106 ⟨"RoomEchoesLaw", "loudest", "(LRoomEchoes;I[J)I"⟩ : Cond) ∈ tb := List.mem_filter.mpr ⟨List.mem_of_getElem? (i := 415) (by decide +kernel), by decide +kernel⟩
theorem mw416 : (.static ⟨"RoomEchoesLaw", "loudest", "(LRoomEchoes;I[J)I"⟩ : Cond) ∈ tb := List.mem_filter.mpr ⟨List.mem_of_getElem? (i := 416) (by decide +kernel), by decide +kernel⟩
theorem mw417 : (.codeWith ⟨"RoomEchoesLaw", "loudest", "(LRoomEchoes;I[J)I"⟩ method_13_code 4 (some .int) [(0, 9, 12, 13)] : Cond) ∈ tb := List.mem_filter.mpr ⟨List.mem_of_getElem? (i := 417) (by decide +kernel), by decide +kernel⟩
theorem mw418 : (.methodLink "RoomEchoesLaw" 49 ⟨"RoomEchoes", "loudest", "(I)I"⟩ : Cond) ∈ tb := List.mem_filter.mpr ⟨List.mem_of_getElem? (i := 418) (by decide +kernel), by decide +kernel⟩
theorem mw419 : (.instanceMethod ⟨"RoomEchoes", "loudest", "(I)I"⟩ : Cond) ∈ tb := List.mem_filter.mpr ⟨List.mem_of_getElem? (i := 419) (by decide +kernel), by decide +kernel⟩
theorem mw420 : (.selects "RoomEchoes" ⟨"RoomEchoes", "loudest", "(I)I"⟩ ⟨"RoomEchoes", "loudest", "(I)I"⟩ : Cond) ∈ tb := List.mem_filter.mpr ⟨List.mem_of_getElem? (i := 420) (by decide +kernel), by decide +kernel⟩
theorem mw421 : (.code ⟨"RoomEchoes", "loudest", "(I)I"⟩ prog_1_method_12_code 6 (some .int) : Cond) ∈ tb := List.mem_filter.mpr ⟨List.mem_of_getElem? (i := 421) (by decide +kernel), by decide +kernel⟩
theorem mw422 : (.constantLong "RoomEchoes" 125 (-1) : Cond) ∈ tb := List.mem_filter.mpr ⟨List.mem_of_getElem? (i := 422) (by decide +kernel), by decide +kernel⟩
theorem mw423 : (.classLink "RoomEchoesLaw" 60 "RoomEchoesModel" : Cond) ∈ tb := List.mem_filter.mpr ⟨List.mem_of_getElem? (i := 423) (by decide +kernel), by decide +kernel⟩
theorem mw424 : (.instantiable "RoomEchoesModel" 12 : Cond) ∈ tb := List.mem_filter.mpr ⟨List.mem_of_getElem? (i := 424) (by decide +kernel), by decide +kernel⟩
theorem mw425 : (.methodLink "RoomEchoesLaw" 62 ⟨"RoomEchoesModel", "<init>", "(III)V"⟩ : Cond) ∈ tb := List.mem_filter.mpr ⟨List.mem_of_getElem? (i := 425) (by decide +kernel), by decide +kernel⟩
theorem mw426 : (.instanceMethod ⟨"RoomEchoesModel", "<init>", "(III)V"⟩ : Cond) ∈ tb := List.mem_filter.mpr ⟨List.mem_of_getElem? (i := 426) (by decide +kernel), by decide +kernel⟩
theorem mw427 : (.code ⟨"RoomEchoesModel", "<init>", "(III)V"⟩ prog_5_method_1_code 5 none : Cond) ∈ tb := List.mem_filter.mpr ⟨List.mem_of_getElem? (i := 427) (by decide +kernel), by decide +kernel⟩
theorem mw428 : (.methodLink "RoomEchoesModel" 1 ⟨"java/lang/Object", "<init>", "()V"⟩ : Cond) ∈ tb := List.mem_filter.mpr ⟨List.mem_of_getElem? (i := 428) (by decide +kernel), by decide +kernel⟩
theorem mw429 : (.fieldLink "RoomEchoesModel" 41 "RoomEchoesModel" "thrown" "I" : Cond) ∈ tb := List.mem_filter.mpr ⟨List.mem_of_getElem? (i := 429) (by decide +kernel), by decide +kernel⟩
theorem mw430 : (.fieldLink "RoomEchoesModel" 7 "RoomEchoesModel" "sizes" "[I" : Cond) ∈ tb := List.mem_filter.mpr ⟨List.mem_of_getElem? (i := 430) (by decide +kernel), by decide +kernel⟩
theorem mw431 : (.fieldLink "RoomEchoesModel" 13 "RoomEchoesModel" "source" "[I" : Cond) ∈ tb := List.mem_filter.mpr ⟨List.mem_of_getElem? (i := 431) (by decide +kernel), by decide +kernel⟩
theorem mw432 : (.fieldLink "RoomEchoesModel" 16 "RoomEchoesModel" "listener" "[I" : Cond) ∈ tb := List.mem_filter.mpr ⟨List.mem_of_getElem? (i := 432) (by decide +kernel), by decide +kernel⟩
theorem mw433 : (.fieldLink "RoomEchoesModel" 19 "RoomEchoesModel" "keeps" "[I" : Cond) ∈ tb := List.mem_filter.mpr ⟨List.mem_of_getElem? (i := 433) (by decide +kernel), by decide +kernel⟩
theorem mw434 : (.fieldLink "RoomEchoesModel" 53 "RoomEchoesModel" "known" "Z" : Cond) ∈ tb := List.mem_filter.mpr ⟨List.mem_of_getElem? (i := 434) (by decide +kernel), by decide +kernel⟩
theorem mw435 : (.fieldLink "RoomEchoesModel" 22 "RoomEchoesModel" "squares" "[J" : Cond) ∈ tb := List.mem_filter.mpr ⟨List.mem_of_getElem? (i := 435) (by decide +kernel), by decide +kernel⟩
theorem mw436 : (.fieldLink "RoomEchoesModel" 26 "RoomEchoesModel" "sorted" "[J" : Cond) ∈ tb := List.mem_filter.mpr ⟨List.mem_of_getElem? (i := 436) (by decide +kernel), by decide +kernel⟩
theorem mw437 : (.fieldLink "RoomEchoesModel" 29 "RoomEchoesModel" "distances" "[J" : Cond) ∈ tb := List.mem_filter.mpr ⟨List.mem_of_getElem? (i := 437) (by decide +kernel), by decide +kernel⟩
theorem mw438 : (.fieldLink "RoomEchoesModel" 32 "RoomEchoesModel" "as" "[I" : Cond) ∈ tb := List.mem_filter.mpr ⟨List.mem_of_getElem? (i := 438) (by decide +kernel), by decide +kernel⟩
theorem mw439 : (.fieldLink "RoomEchoesModel" 35 "RoomEchoesModel" "bs" "[I" : Cond) ∈ tb := List.mem_filter.mpr ⟨List.mem_of_getElem? (i := 439) (by decide +kernel), by decide +kernel⟩
theorem mw440 : (.fieldLink "RoomEchoesModel" 38 "RoomEchoesModel" "cs" "[I" : Cond) ∈ tb := List.mem_filter.mpr ⟨List.mem_of_getElem? (i := 440) (by decide +kernel), by decide +kernel⟩
theorem mw466 : (.methodLink "RoomEchoesLaw" 67 ⟨"RoomEchoesModel", "thrown", "()I"⟩ : Cond) ∈ tb := List.mem_filter.mpr ⟨List.mem_of_getElem? (i := 466) (by decide +kernel), by decide +kernel⟩
theorem mw467 : (.instanceMethod ⟨"RoomEchoesModel", "thrown", "()I"⟩ : Cond) ∈ tb := List.mem_filter.mpr ⟨List.mem_of_getElem? (i := 467) (by decide +kernel), by decide +kernel⟩
theorem mw468 : (.selects "RoomEchoesModel" ⟨"RoomEchoesModel", "thrown", "()I"⟩ ⟨"RoomEchoesModel", "thrown", "()I"⟩ : Cond) ∈ tb := List.mem_filter.mpr ⟨List.mem_of_getElem? (i := 468) (by decide +kernel), by decide +kernel⟩
theorem mw469 : (.code ⟨"RoomEchoesModel", "thrown", "()I"⟩ prog_5_method_2_code 1 (some .int) : Cond) ∈ tb := List.mem_filter.mpr ⟨List.mem_of_getElem? (i := 469) (by decide +kernel), by decide +kernel⟩
theorem mw470 : (.methodLink "RoomEchoesLaw" 66 ⟨"RoomEchoesModel", "source", "(III)V"⟩ : Cond) ∈ tb := List.mem_filter.mpr ⟨List.mem_of_getElem? (i := 470) (by decide +kernel), by decide +kernel⟩
theorem mw471 : (.instanceMethod ⟨"RoomEchoesModel", "source", "(III)V"⟩ : Cond) ∈ tb := List.mem_filter.mpr ⟨List.mem_of_getElem? (i := 471) (by decide +kernel), by decide +kernel⟩
theorem mw472 : (.selects "RoomEchoesModel" ⟨"RoomEchoesModel", "source", "(III)V"⟩ ⟨"RoomEchoesModel", "source", "(III)V"⟩ : Cond) ∈ tb := List.mem_filter.mpr ⟨List.mem_of_getElem? (i := 472) (by decide +kernel), by decide +kernel⟩
theorem mw473 : (.code ⟨"RoomEchoesModel", "source", "(III)V"⟩ prog_5_method_5_code 4 none : Cond) ∈ tb := List.mem_filter.mpr ⟨List.mem_of_getElem? (i := 473) (by decide +kernel), by decide +kernel⟩
theorem mw474 : (.methodLink "RoomEchoesModel" 49 ⟨"RoomEchoesModel", "isPoint", "(III)Z"⟩ : Cond) ∈ tb := List.mem_filter.mpr ⟨List.mem_of_getElem? (i := 474) (by decide +kernel), by decide +kernel⟩
theorem mw476 : (.instanceMethod ⟨"RoomEchoesModel", "isPoint", "(III)Z"⟩ : Cond) ∈ tb := List.mem_filter.mpr ⟨List.mem_of_getElem? (i := 476) (by decide +kernel), by decide +kernel⟩
theorem mw477 : (.code ⟨"RoomEchoesModel", "isPoint", "(III)Z"⟩ prog_5_method_4_code 4 (some .boolean) : Cond) ∈ tb := List.mem_filter.mpr ⟨List.mem_of_getElem? (i := 477) (by decide +kernel), by decide +kernel⟩
theorem mw478 : (.methodLink "RoomEchoesModel" 45 ⟨"RoomEchoesModel", "in", "(JJJ)Z"⟩ : Cond) ∈ tb := List.mem_filter.mpr ⟨List.mem_of_getElem? (i := 478) (by decide +kernel), by decide +kernel⟩
theorem mw479 : (.static ⟨"RoomEchoesModel", "in", "(JJJ)Z"⟩ : Cond) ∈ tb := List.mem_filter.mpr ⟨List.mem_of_getElem? (i := 479) (by decide +kernel), by decide +kernel⟩
theorem mw480 : (.code ⟨"RoomEchoesModel", "in", "(JJJ)Z"⟩ prog_5_method_3_code 6 (some .boolean) : Cond) ∈ tb := List.mem_filter.mpr ⟨List.mem_of_getElem? (i := 480) (by decide +kernel), by decide +kernel⟩
theorem mw481 : (.methodLink "RoomEchoesLaw" 73 ⟨"RoomEchoesModel", "listener", "(III)V"⟩ : Cond) ∈ tb := List.mem_filter.mpr ⟨List.mem_of_getElem? (i := 481) (by decide +kernel), by decide +kernel⟩
theorem mw482 : (.instanceMethod ⟨"RoomEchoesModel", "listener", "(III)V"⟩ : Cond) ∈ tb := List.mem_filter.mpr ⟨List.mem_of_getElem? (i := 482) (by decide +kernel), by decide +kernel⟩
theorem mw483 : (.selects "RoomEchoesModel" ⟨"RoomEchoesModel", "listener", "(III)V"⟩ ⟨"RoomEchoesModel", "listener", "(III)V"⟩ : Cond) ∈ tb := List.mem_filter.mpr ⟨List.mem_of_getElem? (i := 483) (by decide +kernel), by decide +kernel⟩
theorem mw484 : (.code ⟨"RoomEchoesModel", "listener", "(III)V"⟩ prog_5_method_6_code 4 none : Cond) ∈ tb := List.mem_filter.mpr ⟨List.mem_of_getElem? (i := 484) (by decide +kernel), by decide +kernel⟩
theorem mw485 : (.methodLink "RoomEchoesLaw" 77 ⟨"RoomEchoesModel", "keeps", "(II)I"⟩ : Cond) ∈ tb := List.mem_filter.mpr ⟨List.mem_of_getElem? (i := 485) (by decide +kernel), by decide +kernel⟩
theorem mw486 : (.instanceMethod ⟨"RoomEchoesModel", "keeps", "(II)I"⟩ : Cond) ∈ tb := List.mem_filter.mpr ⟨List.mem_of_getElem? (i := 486) (by decide +kernel), by decide +kernel⟩
theorem mw487 : (.selects "RoomEchoesModel" ⟨"RoomEchoesModel", "keeps", "(II)I"⟩ ⟨"RoomEchoesModel", "keeps", "(II)I"⟩ : Cond) ∈ tb := List.mem_filter.mpr ⟨List.mem_of_getElem? (i := 487) (by decide +kernel), by decide +kernel⟩
theorem mw488 : (.code ⟨"RoomEchoesModel", "keeps", "(II)I"⟩ prog_5_method_7_code 4 (some .int) : Cond) ∈ tb := List.mem_filter.mpr ⟨List.mem_of_getElem? (i := 488) (by decide +kernel), by decide +kernel⟩
theorem mw489 : (.constantLong "RoomEchoesModel" 57 5 : Cond) ∈ tb := List.mem_filter.mpr ⟨List.mem_of_getElem? (i := 489) (by decide +kernel), by decide +kernel⟩
theorem mw490 : (.constantLong "RoomEchoesModel" 59 1000 : Cond) ∈ tb := List.mem_filter.mpr ⟨List.mem_of_getElem? (i := 490) (by decide +kernel), by decide +kernel⟩
theorem mw491 : (.methodLink "RoomEchoesLaw" 81 ⟨"RoomEchoesModel", "image", "(IIII)J"⟩ : Cond) ∈ tb := List.mem_filter.mpr ⟨List.mem_of_getElem? (i := 491) (by decide +kernel), by decide +kernel⟩
theorem mw492 : (.instanceMethod ⟨"RoomEchoesModel", "image", "(IIII)J"⟩ : Cond) ∈ tb := List.mem_filter.mpr ⟨List.mem_of_getElem? (i := 492) (by decide +kernel), by decide +kernel⟩
theorem mw493 : (.selects "RoomEchoesModel" ⟨"RoomEchoesModel", "image", "(IIII)J"⟩ ⟨"RoomEchoesModel", "image", "(IIII)J"⟩ : Cond) ∈ tb := List.mem_filter.mpr ⟨List.mem_of_getElem? (i := 493) (by decide +kernel), by decide +kernel⟩
theorem mw494 : (.code ⟨"RoomEchoesModel", "image", "(IIII)J"⟩ prog_5_method_17_code 5 (some .long) : Cond) ∈ tb := List.mem_filter.mpr ⟨List.mem_of_getElem? (i := 494) (by decide +kernel), by decide +kernel⟩
theorem mw495 : (.methodLink "RoomEchoesModel" 92 ⟨"RoomEchoesModel", "isImage", "(III)Z"⟩ : Cond) ∈ tb := List.mem_filter.mpr ⟨List.mem_of_getElem? (i := 495) (by decide +kernel), by decide +kernel⟩
theorem mw496 : (.static ⟨"RoomEchoesModel", "isImage", "(III)Z"⟩ : Cond) ∈ tb := List.mem_filter.mpr ⟨List.mem_of_getElem? (i := 496) (by decide +kernel), by decide +kernel⟩
theorem mw497 : (.code ⟨"RoomEchoesModel", "isImage", "(III)Z"⟩ prog_5_method_16_code 3 (some .boolean) : Cond) ∈ tb := List.mem_filter.mpr ⟨List.mem_of_getElem? (i := 497) (by decide +kernel), by decide +kernel⟩
theorem mw498 : (.constantLong "RoomEchoesModel" 88 (-40) : Cond) ∈ tb := List.mem_filter.mpr ⟨List.mem_of_getElem? (i := 498) (by decide +kernel), by decide +kernel⟩
theorem mw499 : (.constantLong "RoomEchoesModel" 90 40 : Cond) ∈ tb := List.mem_filter.mpr ⟨List.mem_of_getElem? (i := 499) (by decide +kernel), by decide +kernel⟩
theorem mw500 : (.constantLong "RoomEchoesModel" 95 3 : Cond) ∈ tb := List.mem_filter.mpr ⟨List.mem_of_getElem? (i := 500) (by decide +kernel), by decide +kernel⟩
theorem mw501 : (.methodLink "RoomEchoesModel" 97 ⟨"RoomEchoesModel", "told", "(IIII)J"⟩ : Cond) ∈ tb := List.mem_filter.mpr ⟨List.mem_of_getElem? (i := 501) (by decide +kernel), by decide +kernel⟩
theorem mw503 : (.instanceMethod ⟨"RoomEchoesModel", "told", "(IIII)J"⟩ : Cond) ∈ tb := List.mem_filter.mpr ⟨List.mem_of_getElem? (i := 503) (by decide +kernel), by decide +kernel⟩
theorem mw504 : (.code ⟨"RoomEchoesModel", "told", "(IIII)J"⟩ prog_5_method_15_code 5 (some .long) : Cond) ∈ tb := List.mem_filter.mpr ⟨List.mem_of_getElem? (i := 504) (by decide +kernel), by decide +kernel⟩
theorem mw505 : (.methodLink "RoomEchoesModel" 78 ⟨"RoomEchoesModel", "distance", "(III)J"⟩ : Cond) ∈ tb := List.mem_filter.mpr ⟨List.mem_of_getElem? (i := 505) (by decide +kernel), by decide +kernel⟩
theorem mw507 : (.instanceMethod ⟨"RoomEchoesModel", "distance", "(III)J"⟩ : Cond) ∈ tb := List.mem_filter.mpr ⟨List.mem_of_getElem? (i := 507) (by decide +kernel), by decide +kernel⟩
theorem mw508 : (.code ⟨"RoomEchoesModel", "distance", "(III)J"⟩ prog_5_method_11_code 4 (some .long) : Cond) ∈ tb := List.mem_filter.mpr ⟨List.mem_of_getElem? (i := 508) (by decide +kernel), by decide +kernel⟩
theorem mw509 : (.methodLink "RoomEchoesModel" 61 ⟨"RoomEchoesModel", "square", "(II)J"⟩ : Cond) ∈ tb := List.mem_filter.mpr ⟨List.mem_of_getElem? (i := 509) (by decide +kernel), by decide +kernel⟩
theorem mw511 : (.instanceMethod ⟨"RoomEchoesModel", "square", "(II)J"⟩ : Cond) ∈ tb := List.mem_filter.mpr ⟨List.mem_of_getElem? (i := 511) (by decide +kernel), by decide +kernel⟩
theorem mw512 : (.code ⟨"RoomEchoesModel", "square", "(II)J"⟩ prog_5_method_8_code 7 (some .long) : Cond) ∈ tb := List.mem_filter.mpr ⟨List.mem_of_getElem? (i := 512) (by decide +kernel), by decide +kernel⟩
theorem mw513 : (.methodLink "RoomEchoesModel" 82 ⟨"RoomEchoesModel", "strength", "(III)J"⟩ : Cond) ∈ tb := List.mem_filter.mpr ⟨List.mem_of_getElem? (i := 513) (by decide +kernel), by decide +kernel⟩
theorem mw515 : (.instanceMethod ⟨"RoomEchoesModel", "strength", "(III)J"⟩ : Cond) ∈ tb := List.mem_filter.mpr ⟨List.mem_of_getElem? (i := 515) (by decide +kernel), by decide +kernel⟩
theorem mw516 : (.code ⟨"RoomEchoesModel", "strength", "(III)J"⟩ prog_5_method_13_code 6 (some .long) : Cond) ∈ tb := List.mem_filter.mpr ⟨List.mem_of_getElem? (i := 516) (by decide +kernel), by decide +kernel⟩
theorem mw517 : (.constantLong "RoomEchoesModel" 65 1000000000 : Cond) ∈ tb := List.mem_filter.mpr ⟨List.mem_of_getElem? (i := 517) (by decide +kernel), by decide +kernel⟩
theorem mw518 : (.methodLink "RoomEchoesModel" 67 ⟨"RoomEchoesModel", "hitsLow", "(I)I"⟩ : Cond) ∈ tb := List.mem_filter.mpr ⟨List.mem_of_getElem? (i := 518) (by decide +kernel), by decide +kernel⟩
theorem mw519 : (.static ⟨"RoomEchoesModel", "hitsLow", "(I)I"⟩ : Cond) ∈ tb := List.mem_filter.mpr ⟨List.mem_of_getElem? (i := 519) (by decide +kernel), by decide +kernel⟩
theorem mw520 : (.code ⟨"RoomEchoesModel", "hitsLow", "(I)I"⟩ prog_5_method_10_code 1 (some .int) : Cond) ∈ tb := List.mem_filter.mpr ⟨List.mem_of_getElem? (i := 520) (by decide +kernel), by decide +kernel⟩
theorem mw521 : (.methodLink "RoomEchoesModel" 71 ⟨"RoomEchoesModel", "kept", "(JII)J"⟩ : Cond) ∈ tb := List.mem_filter.mpr ⟨List.mem_of_getElem? (i := 521) (by decide +kernel), by decide +kernel⟩
theorem mw523 : (.instanceMethod ⟨"RoomEchoesModel", "kept", "(JII)J"⟩ : Cond) ∈ tb := List.mem_filter.mpr ⟨List.mem_of_getElem? (i := 523) (by decide +kernel), by decide +kernel⟩
theorem mw524 : (.code ⟨"RoomEchoesModel", "kept", "(JII)J"⟩ prog_5_method_12_code 8 (some .long) : Cond) ∈ tb := List.mem_filter.mpr ⟨List.mem_of_getElem? (i := 524) (by decide +kernel), by decide +kernel⟩
theorem mw525 : (.methodLink "RoomEchoesModel" 75 ⟨"RoomEchoesModel", "hitsHigh", "(I)I"⟩ : Cond) ∈ tb := List.mem_filter.mpr ⟨List.mem_of_getElem? (i := 525) (by decide +kernel), by decide +kernel⟩
theorem mw526 : (.static ⟨"RoomEchoesModel", "hitsHigh", "(I)I"⟩ : Cond) ∈ tb := List.mem_filter.mpr ⟨List.mem_of_getElem? (i := 526) (by decide +kernel), by decide +kernel⟩
theorem mw527 : (.code ⟨"RoomEchoesModel", "hitsHigh", "(I)I"⟩ prog_5_method_9_code 1 (some .int) : Cond) ∈ tb := List.mem_filter.mpr ⟨List.mem_of_getElem? (i := 527) (by decide +kernel), by decide +kernel⟩
theorem mw528 : (.methodLink "RoomEchoesModel" 85 ⟨"RoomEchoesModel", "hits", "(I)I"⟩ : Cond) ∈ tb := List.mem_filter.mpr ⟨List.mem_of_getElem? (i := 528) (by decide +kernel), by decide +kernel⟩
theorem mw529 : (.static ⟨"RoomEchoesModel", "hits", "(I)I"⟩ : Cond) ∈ tb := List.mem_filter.mpr ⟨List.mem_of_getElem? (i := 529) (by decide +kernel), by decide +kernel⟩
theorem mw530 : (.code ⟨"RoomEchoesModel", "hits", "(I)I"⟩ prog_5_method_14_code 1 (some .int) : Cond) ∈ tb := List.mem_filter.mpr ⟨List.mem_of_getElem? (i := 530) (by decide +kernel), by decide +kernel⟩
theorem mw531 : (.methodLink "RoomEchoesLaw" 84 ⟨"RoomEchoesModel", "echo", "(II)J"⟩ : Cond) ∈ tb := List.mem_filter.mpr ⟨List.mem_of_getElem? (i := 531) (by decide +kernel), by decide +kernel⟩
theorem mw532 : (.instanceMethod ⟨"RoomEchoesModel", "echo", "(II)J"⟩ : Cond) ∈ tb := List.mem_filter.mpr ⟨List.mem_of_getElem? (i := 532) (by decide +kernel), by decide +kernel⟩
theorem mw533 : (.selects "RoomEchoesModel" ⟨"RoomEchoesModel", "echo", "(II)J"⟩ ⟨"RoomEchoesModel", "echo", "(II)J"⟩ : Cond) ∈ tb := List.mem_filter.mpr ⟨List.mem_of_getElem? (i := 533) (by decide +kernel), by decide +kernel⟩
theorem mw534 : (.code ⟨"RoomEchoesModel", "echo", "(II)J"⟩ prog_5_method_23_code 3 (some .long) : Cond) ∈ tb := List.mem_filter.mpr ⟨List.mem_of_getElem? (i := 534) (by decide +kernel), by decide +kernel⟩
theorem mw535 : (.constantLong "RoomEchoesModel" 120 499 : Cond) ∈ tb := List.mem_filter.mpr ⟨List.mem_of_getElem? (i := 535) (by decide +kernel), by decide +kernel⟩
theorem mw536 : (.constantLong "RoomEchoesModel" 122 6 : Cond) ∈ tb := List.mem_filter.mpr ⟨List.mem_of_getElem? (i := 536) (by decide +kernel), by decide +kernel⟩
theorem mw537 : (.methodLink "RoomEchoesModel" 124 ⟨"RoomEchoesModel", "make", "()V"⟩ : Cond) ∈ tb := List.mem_filter.mpr ⟨List.mem_of_getElem? (i := 537) (by decide +kernel), by decide +kernel⟩
theorem mw539 : (.instanceMethod ⟨"RoomEchoesModel", "make", "()V"⟩ : Cond) ∈ tb := List.mem_filter.mpr ⟨List.mem_of_getElem? (i := 539) (by decide +kernel), by decide +kernel⟩
theorem mw540 : (.code ⟨"RoomEchoesModel", "make", "()V"⟩ prog_5_method_20_code 7 none : Cond) ∈ tb := List.mem_filter.mpr ⟨List.mem_of_getElem? (i := 540) (by decide +kernel), by decide +kernel⟩
theorem mw541 : (.methodLink "RoomEchoesModel" 101 ⟨"RoomEchoesModel", "prepare", "()V"⟩ : Cond) ∈ tb := List.mem_filter.mpr ⟨List.mem_of_getElem? (i := 541) (by decide +kernel), by decide +kernel⟩
theorem mw543 : (.instanceMethod ⟨"RoomEchoesModel", "prepare", "()V"⟩ : Cond) ∈ tb := List.mem_filter.mpr ⟨List.mem_of_getElem? (i := 543) (by decide +kernel), by decide +kernel⟩
theorem mw544 : (.code ⟨"RoomEchoesModel", "prepare", "()V"⟩ prog_5_method_18_code 6 none : Cond) ∈ tb := List.mem_filter.mpr ⟨List.mem_of_getElem? (i := 544) (by decide +kernel), by decide +kernel⟩
theorem mw545 : (.constantLong "RoomEchoesModel" 104 8000000000 : Cond) ∈ tb := List.mem_filter.mpr ⟨List.mem_of_getElem? (i := 545) (by decide +kernel), by decide +kernel⟩
theorem mw546 : (.constantLong "RoomEchoesModel" 106 2 : Cond) ∈ tb := List.mem_filter.mpr ⟨List.mem_of_getElem? (i := 546) (by decide +kernel), by decide +kernel⟩
theorem mw547 : (.methodLink "RoomEchoesModel" 108 ⟨"RoomEchoesModel", "isEnough", "(J)Z"⟩ : Cond) ∈ tb := List.mem_filter.mpr ⟨List.mem_of_getElem? (i := 547) (by decide +kernel), by decide +kernel⟩
theorem mw549 : (.instanceMethod ⟨"RoomEchoesModel", "isEnough", "(J)Z"⟩ : Cond) ∈ tb := List.mem_filter.mpr ⟨List.mem_of_getElem? (i := 549) (by decide +kernel), by decide +kernel⟩
theorem mw550 : (.code ⟨"RoomEchoesModel", "isEnough", "(J)Z"⟩ prog_5_method_19_code 9 (some .boolean) : Cond) ∈ tb := List.mem_filter.mpr ⟨List.mem_of_getElem? (i := 550) (by decide +kernel), by decide +kernel⟩
theorem mw551 : (.methodLink "RoomEchoesModel" 112 ⟨"RoomEchoesModel", "collect", "(IJJ)I"⟩ : Cond) ∈ tb := List.mem_filter.mpr ⟨List.mem_of_getElem? (i := 551) (by decide +kernel), by decide +kernel⟩
theorem mw553 : (.instanceMethod ⟨"RoomEchoesModel", "collect", "(IJJ)I"⟩ : Cond) ∈ tb := List.mem_filter.mpr ⟨List.mem_of_getElem? (i := 553) (by decide +kernel), by decide +kernel⟩
theorem mw554 : (.code ⟨"RoomEchoesModel", "collect", "(IJJ)I"⟩ prog_5_method_21_code 14 (some .int) : Cond) ∈ tb := List.mem_filter.mpr ⟨List.mem_of_getElem? (i := 554) (by decide +kernel), by decide +kernel⟩
theorem mw555 : (.methodLink "RoomEchoesModel" 116 ⟨"RoomEchoesModel", "put", "(IJIII)V"⟩ : Cond) ∈ tb := List.mem_filter.mpr ⟨List.mem_of_getElem? (i := 555) (by decide +kernel), by decide +kernel⟩
theorem mw557 : (.instanceMethod ⟨"RoomEchoesModel", "put", "(IJIII)V"⟩ : Cond) ∈ tb := List.mem_filter.mpr ⟨List.mem_of_getElem? (i := 557) (by decide +kernel), by decide +kernel⟩
theorem mw558 : (.code ⟨"RoomEchoesModel", "put", "(IJIII)V"⟩ prog_5_method_22_code 8 none : Cond) ∈ tb := List.mem_filter.mpr ⟨List.mem_of_getElem? (i := 558) (by decide +kernel), by decide +kernel⟩
theorem mw559 : (.methodLink "RoomEchoesLaw" 88 ⟨"RoomEchoesModel", "place", "(III)I"⟩ : Cond) ∈ tb := List.mem_filter.mpr ⟨List.mem_of_getElem? (i := 559) (by decide +kernel), by decide +kernel⟩
theorem mw560 : (.instanceMethod ⟨"RoomEchoesModel", "place", "(III)I"⟩ : Cond) ∈ tb := List.mem_filter.mpr ⟨List.mem_of_getElem? (i := 560) (by decide +kernel), by decide +kernel⟩
theorem mw561 : (.selects "RoomEchoesModel" ⟨"RoomEchoesModel", "place", "(III)I"⟩ ⟨"RoomEchoesModel", "place", "(III)I"⟩ : Cond) ∈ tb := List.mem_filter.mpr ⟨List.mem_of_getElem? (i := 561) (by decide +kernel), by decide +kernel⟩
theorem mw562 : (.code ⟨"RoomEchoesModel", "place", "(III)I"⟩ prog_5_method_24_code 6 (some .int) : Cond) ∈ tb := List.mem_filter.mpr ⟨List.mem_of_getElem? (i := 562) (by decide +kernel), by decide +kernel⟩
theorem mw563 : (.methodLink "RoomEchoesLaw" 94 ⟨"RoomEchoesModel", "until", "(J)I"⟩ : Cond) ∈ tb := List.mem_filter.mpr ⟨List.mem_of_getElem? (i := 563) (by decide +kernel), by decide +kernel⟩
theorem mw564 : (.instanceMethod ⟨"RoomEchoesModel", "until", "(J)I"⟩ : Cond) ∈ tb := List.mem_filter.mpr ⟨List.mem_of_getElem? (i := 564) (by decide +kernel), by decide +kernel⟩
theorem mw565 : (.selects "RoomEchoesModel" ⟨"RoomEchoesModel", "until", "(J)I"⟩ ⟨"RoomEchoesModel", "until", "(J)I"⟩ : Cond) ∈ tb := List.mem_filter.mpr ⟨List.mem_of_getElem? (i := 565) (by decide +kernel), by decide +kernel⟩
theorem mw566 : (.code ⟨"RoomEchoesModel", "until", "(J)I"⟩ prog_5_method_26_code 3 (some .int) : Cond) ∈ tb := List.mem_filter.mpr ⟨List.mem_of_getElem? (i := 566) (by decide +kernel), by decide +kernel⟩
theorem mw567 : (.methodLink "RoomEchoesModel" 127 ⟨"RoomEchoesModel", "countUntil", "(J)I"⟩ : Cond) ∈ tb := List.mem_filter.mpr ⟨List.mem_of_getElem? (i := 567) (by decide +kernel), by decide +kernel⟩
theorem mw569 : (.instanceMethod ⟨"RoomEchoesModel", "countUntil", "(J)I"⟩ : Cond) ∈ tb := List.mem_filter.mpr ⟨List.mem_of_getElem? (i := 569) (by decide +kernel), by decide +kernel⟩
theorem mw570 : (.code ⟨"RoomEchoesModel", "countUntil", "(J)I"⟩ prog_5_method_25_code 4 (some .int) : Cond) ∈ tb := List.mem_filter.mpr ⟨List.mem_of_getElem? (i := 570) (by decide +kernel), by decide +kernel⟩
theorem mw571 : (.methodLink "RoomEchoesLaw" 97 ⟨"RoomEchoesModel", "loud", "(II)J"⟩ : Cond) ∈ tb := List.mem_filter.mpr ⟨List.mem_of_getElem? (i := 571) (by decide +kernel), by decide +kernel⟩
theorem mw572 : (.instanceMethod ⟨"RoomEchoesModel", "loud", "(II)J"⟩ : Cond) ∈ tb := List.mem_filter.mpr ⟨List.mem_of_getElem? (i := 572) (by decide +kernel), by decide +kernel⟩
theorem mw573 : (.selects "RoomEchoesModel" ⟨"RoomEchoesModel", "loud", "(II)J"⟩ ⟨"RoomEchoesModel", "loud", "(II)J"⟩ : Cond) ∈ tb := List.mem_filter.mpr ⟨List.mem_of_getElem? (i := 573) (by decide +kernel), by decide +kernel⟩
theorem mw574 : (.code ⟨"RoomEchoesModel", "loud", "(II)J"⟩ prog_5_method_29_code 3 (some .long) : Cond) ∈ tb := List.mem_filter.mpr ⟨List.mem_of_getElem? (i := 574) (by decide +kernel), by decide +kernel⟩
theorem mw575 : (.methodLink "RoomEchoesModel" 135 ⟨"RoomEchoesModel", "first", "(I)J"⟩ : Cond) ∈ tb := List.mem_filter.mpr ⟨List.mem_of_getElem? (i := 575) (by decide +kernel), by decide +kernel⟩
theorem mw577 : (.instanceMethod ⟨"RoomEchoesModel", "first", "(I)J"⟩ : Cond) ∈ tb := List.mem_filter.mpr ⟨List.mem_of_getElem? (i := 577) (by decide +kernel), by decide +kernel⟩
theorem mw578 : (.code ⟨"RoomEchoesModel", "first", "(I)J"⟩ prog_5_method_28_code 5 (some .long) : Cond) ∈ tb := List.mem_filter.mpr ⟨List.mem_of_getElem? (i := 578) (by decide +kernel), by decide +kernel⟩
theorem mw579 : (.methodLink "RoomEchoesModel" 131 ⟨"RoomEchoesModel", "loudness", "(I)J"⟩ : Cond) ∈ tb := List.mem_filter.mpr ⟨List.mem_of_getElem? (i := 579) (by decide +kernel), by decide +kernel⟩
theorem mw581 : (.instanceMethod ⟨"RoomEchoesModel", "loudness", "(I)J"⟩ : Cond) ∈ tb := List.mem_filter.mpr ⟨List.mem_of_getElem? (i := 581) (by decide +kernel), by decide +kernel⟩
theorem mw582 : (.code ⟨"RoomEchoesModel", "loudness", "(I)J"⟩ prog_5_method_27_code 2 (some .long) : Cond) ∈ tb := List.mem_filter.mpr ⟨List.mem_of_getElem? (i := 582) (by decide +kernel), by decide +kernel⟩
theorem mw583 : (.methodLink "RoomEchoesLaw" 101 ⟨"RoomEchoesModel", "early", "(JI)J"⟩ : Cond) ∈ tb := List.mem_filter.mpr ⟨List.mem_of_getElem? (i := 583) (by decide +kernel), by decide +kernel⟩
theorem mw584 : (.instanceMethod ⟨"RoomEchoesModel", "early", "(JI)J"⟩ : Cond) ∈ tb := List.mem_filter.mpr ⟨List.mem_of_getElem? (i := 584) (by decide +kernel), by decide +kernel⟩
theorem mw585 : (.selects "RoomEchoesModel" ⟨"RoomEchoesModel", "early", "(JI)J"⟩ ⟨"RoomEchoesModel", "early", "(JI)J"⟩ : Cond) ∈ tb := List.mem_filter.mpr ⟨List.mem_of_getElem? (i := 585) (by decide +kernel), by decide +kernel⟩
theorem mw586 : (.code ⟨"RoomEchoesModel", "early", "(JI)J"⟩ prog_5_method_31_code 10 (some .long) : Cond) ∈ tb := List.mem_filter.mpr ⟨List.mem_of_getElem? (i := 586) (by decide +kernel), by decide +kernel⟩
theorem mw587 : (.methodLink "RoomEchoesModel" 138 ⟨"RoomEchoesModel", "common", "(JJ)J"⟩ : Cond) ∈ tb := List.mem_filter.mpr ⟨List.mem_of_getElem? (i := 587) (by decide +kernel), by decide +kernel⟩
theorem mw588 : (.static ⟨"RoomEchoesModel", "common", "(JJ)J"⟩ : Cond) ∈ tb := List.mem_filter.mpr ⟨List.mem_of_getElem? (i := 588) (by decide +kernel), by decide +kernel⟩
theorem mw589 : (.code ⟨"RoomEchoesModel", "common", "(JJ)J"⟩ prog_5_method_30_code 10 (some .long) : Cond) ∈ tb := List.mem_filter.mpr ⟨List.mem_of_getElem? (i := 589) (by decide +kernel), by decide +kernel⟩
theorem mw590 : (.methodLink "RoomEchoesLaw" 105 ⟨"RoomEchoesModel", "enough", "(I)I"⟩ : Cond) ∈ tb := List.mem_filter.mpr ⟨List.mem_of_getElem? (i := 590) (by decide +kernel), by decide +kernel⟩
theorem mw591 : (.instanceMethod ⟨"RoomEchoesModel", "enough", "(I)I"⟩ : Cond) ∈ tb := List.mem_filter.mpr ⟨List.mem_of_getElem? (i := 591) (by decide +kernel), by decide +kernel⟩
theorem mw592 : (.selects "RoomEchoesModel" ⟨"RoomEchoesModel", "enough", "(I)I"⟩ ⟨"RoomEchoesModel", "enough", "(I)I"⟩ : Cond) ∈ tb := List.mem_filter.mpr ⟨List.mem_of_getElem? (i := 592) (by decide +kernel), by decide +kernel⟩
theorem mw593 : (.code ⟨"RoomEchoesModel", "enough", "(I)I"⟩ prog_5_method_32_code 7 (some .int) : Cond) ∈ tb := List.mem_filter.mpr ⟨List.mem_of_getElem? (i := 593) (by decide +kernel), by decide +kernel⟩
theorem mw594 : (.methodLink "RoomEchoesLaw" 108 ⟨"RoomEchoesModel", "loudest", "(I)I"⟩ : Cond) ∈ tb := List.mem_filter.mpr ⟨List.mem_of_getElem? (i := 594) (by decide +kernel), by decide +kernel⟩
theorem mw595 : (.instanceMethod ⟨"RoomEchoesModel", "loudest", "(I)I"⟩ : Cond) ∈ tb := List.mem_filter.mpr ⟨List.mem_of_getElem? (i := 595) (by decide +kernel), by decide +kernel⟩
theorem mw596 : (.selects "RoomEchoesModel" ⟨"RoomEchoesModel", "loudest", "(I)I"⟩ ⟨"RoomEchoesModel", "loudest", "(I)I"⟩ : Cond) ∈ tb := List.mem_filter.mpr ⟨List.mem_of_getElem? (i := 596) (by decide +kernel), by decide +kernel⟩
theorem mw597 : (.code ⟨"RoomEchoesModel", "loudest", "(I)I"⟩ prog_5_method_33_code 4 (some .int) : Cond) ∈ tb := List.mem_filter.mpr ⟨List.mem_of_getElem? (i := 597) (by decide +kernel), by decide +kernel⟩
theorem mw598 : (.constantLong "RoomEchoesModel" 142 (-1) : Cond) ∈ tb := List.mem_filter.mpr ⟨List.mem_of_getElem? (i := 598) (by decide +kernel), by decide +kernel⟩
theorem mw599 : (.constantLong "RoomEchoesLaw" 89 4294967295 : Cond) ∈ tb := List.mem_filter.mpr ⟨List.mem_of_getElem? (i := 599) (by decide +kernel), by decide +kernel⟩
end
section
def FT_A : u_T := fun k => match k with
  | 0 => ("RoomEchoes$Axis", "size", "I", true)
  | 1 => ("RoomEchoes$Axis", "sourceAt", "I", false)
  | 2 => ("RoomEchoes$Axis", "listenerAt", "I", false)
  | 3 => ("RoomEchoes$Axis", "ranked", "[J", true)
  | _ => ("RoomEchoes$Axis", "ranks", "[I", true)
def ty_A : Nat → FieldType := fun k => match k with
  | 0 => .int
  | 1 => .int
  | 2 => .int
  | 3 => .array .long
  | _ => .array .int
theorem nm_A : ∀ a, a < 5 → ∀ b, b < 5 → a ≠ b → (FT_A a).2.1 ≠ (FT_A b).2.1 := by decide +kernel
theorem tyo_A : ∀ k, k < 5 → parseFieldDescriptor (FT_A k).2.2.1 = some (ty_A k) := by decide +kernel
theorem in_A : ∀ w ∈ u_ws "RoomEchoes$Axis" FT_A 5, w ∈ tb := by decide +kernel
def FT_F : u_T := fun k => match k with
  | 0 => ("RoomEchoes$Frontier", "keys", "[J", true)
  | _ => ("RoomEchoes$Frontier", "size", "I", false)
def ty_F : Nat → FieldType := fun k => match k with
  | 0 => .array .long
  | _ => .int
theorem nm_F : ∀ a, a < 2 → ∀ b, b < 2 → a ≠ b → (FT_F a).2.1 ≠ (FT_F b).2.1 := by decide +kernel
theorem tyo_F : ∀ k, k < 2 → parseFieldDescriptor (FT_F k).2.2.1 = some (ty_F k) := by decide +kernel
theorem in_F : ∀ w ∈ u_ws "RoomEchoes$Frontier" FT_F 2, w ∈ tb := by decide +kernel
def FT_R : u_T := fun k => match k with
  | 0 => ("RoomEchoes", "first", "LRoomEchoes$Axis;", true)
  | 1 => ("RoomEchoes", "second", "LRoomEchoes$Axis;", true)
  | 2 => ("RoomEchoes", "third", "LRoomEchoes$Axis;", true)
  | 3 => ("RoomEchoes", "kept", "[I", true)
  | 4 => ("RoomEchoes", "frontier", "LRoomEchoes$Frontier;", true)
  | 5 => ("RoomEchoes", "echoKeys", "[J", true)
  | 6 => ("RoomEchoes", "loudnesses", "[J", true)
  | 7 => ("RoomEchoes", "ordered", "Z", false)
  | _ => ("RoomEchoes", "weighed", "Z", false)
def ty_R : Nat → FieldType := fun k => match k with
  | 0 => .object "RoomEchoes$Axis"
  | 1 => .object "RoomEchoes$Axis"
  | 2 => .object "RoomEchoes$Axis"
  | 3 => .array .int
  | 4 => .object "RoomEchoes$Frontier"
  | 5 => .array .long
  | 6 => .array .long
  | 7 => .boolean
  | _ => .boolean
theorem nm_R : ∀ a, a < 9 → ∀ b, b < 9 → a ≠ b → (FT_R a).2.1 ≠ (FT_R b).2.1 := by decide +kernel
theorem tyo_R : ∀ k, k < 9 → parseFieldDescriptor (FT_R k).2.2.1 = some (ty_R k) := by decide +kernel
theorem in_R : ∀ w ∈ u_ws "RoomEchoes" FT_R 9, w ∈ tb := by decide +kernel
def FT_M : u_T := fun k => match k with
  | 0 => ("RoomEchoesModel", "thrown", "I", false)
  | 1 => ("RoomEchoesModel", "sizes", "[I", true)
  | 2 => ("RoomEchoesModel", "source", "[I", true)
  | 3 => ("RoomEchoesModel", "listener", "[I", true)
  | 4 => ("RoomEchoesModel", "keeps", "[I", true)
  | 5 => ("RoomEchoesModel", "known", "Z", false)
  | 6 => ("RoomEchoesModel", "squares", "[J", true)
  | 7 => ("RoomEchoesModel", "sorted", "[J", true)
  | 8 => ("RoomEchoesModel", "distances", "[J", true)
  | 9 => ("RoomEchoesModel", "as", "[I", true)
  | 10 => ("RoomEchoesModel", "bs", "[I", true)
  | _ => ("RoomEchoesModel", "cs", "[I", true)
def ty_M : Nat → FieldType := fun k => match k with
  | 0 => .int
  | 1 => .array .int
  | 2 => .array .int
  | 3 => .array .int
  | 4 => .array .int
  | 5 => .boolean
  | 6 => .array .long
  | 7 => .array .long
  | 8 => .array .long
  | 9 => .array .int
  | 10 => .array .int
  | _ => .array .int
theorem nm_M : ∀ a, a < 12 → ∀ b, b < 12 → a ≠ b → (FT_M a).2.1 ≠ (FT_M b).2.1 := by decide +kernel
theorem tyo_M : ∀ k, k < 12 → parseFieldDescriptor (FT_M k).2.2.1 = some (ty_M k) := by decide +kernel
theorem in_M : ∀ w ∈ u_ws "RoomEchoesModel" FT_M 12, w ∈ tb := by decide +kernel
abbrev nwF : Cond := .methodLinkNest "RoomEchoes" 15 ⟨"RoomEchoes$Frontier", "<init>", "()V"⟩ "RoomEchoes"
abbrev nwW : Cond := .methodLinkNest "RoomEchoes$Axis" 44 ⟨"RoomEchoes", "withNumberBelow", "(JI)J"⟩ "RoomEchoes"
abbrev nwN : Cond := .methodLinkNest "RoomEchoes$Axis" 48 ⟨"RoomEchoes", "lowestNumberIn", "(J)I"⟩ "RoomEchoes"
abbrev vwCl : List vw_C := [("RoomEchoes$Axis", FT_A, 5), ("RoomEchoes$Frontier", FT_F, 2), ("RoomEchoes", FT_R, 9), ("RoomEchoesModel", FT_M, 12)]
abbrev b_R_init : ByteArray := prog_1_method_1_code
abbrev y_R_init : MethodName := ⟨"RoomEchoes", "<init>", "(III)V"⟩
abbrev w_R_init : List Cond := .code ⟨"RoomEchoes", "<init>", "(III)V"⟩ prog_1_method_1_code 5 none :: tb
abbrev b_F_init : ByteArray := prog_3_method_1_code
abbrev y_F_init : MethodName := ⟨"RoomEchoes$Frontier", "<init>", "()V"⟩
abbrev w_F_init : List Cond := .code ⟨"RoomEchoes$Frontier", "<init>", "()V"⟩ prog_3_method_1_code 1 none :: tb
abbrev b_R_sizeWithin : ByteArray := prog_1_method_13_code
abbrev y_R_sizeWithin : MethodName := ⟨"RoomEchoes", "sizeWithin", "(I)I"⟩
abbrev w_R_sizeWithin : List Cond := .code ⟨"RoomEchoes", "sizeWithin", "(I)I"⟩ prog_1_method_13_code 1 (some .int) :: tb
abbrev b_A_init : ByteArray := prog_2_method_1_code
abbrev y_A_init : MethodName := ⟨"RoomEchoes$Axis", "<init>", "(I)V"⟩
abbrev w_A_init : List Cond := .code ⟨"RoomEchoes$Axis", "<init>", "(I)V"⟩ prog_2_method_1_code 2 none :: tb
abbrev b_L_cell : ByteArray := method_2_code
abbrev y_L_cell : MethodName := ⟨"RoomEchoesLaw", "cell", "([II)I"⟩
abbrev w_L_cell : List Cond := .code ⟨"RoomEchoesLaw", "cell", "([II)I"⟩ method_2_code 2 (some .int) :: tb
abbrev b_L_source : ByteArray := method_3_code
abbrev y_L_source : MethodName := ⟨"RoomEchoesLaw", "source", "(LRoomEchoes;III)I"⟩
abbrev w_L_source : List Cond := .codeWith ⟨"RoomEchoesLaw", "source", "(LRoomEchoes;III)I"⟩ method_3_code 5 (some .int) [(0, 7, 10, 13)] :: tb
abbrev b_R_source : ByteArray := prog_1_method_2_code
abbrev y_R_source : MethodName := ⟨"RoomEchoes", "source", "(III)V"⟩
abbrev w_R_source : List Cond := .code ⟨"RoomEchoes", "source", "(III)V"⟩ prog_1_method_2_code 4 none :: tb
abbrev b_R_requirePoint : ByteArray := prog_1_method_17_code
abbrev y_R_requirePoint : MethodName := ⟨"RoomEchoes", "requirePoint", "(III)V"⟩
abbrev w_R_requirePoint : List Cond := .code ⟨"RoomEchoes", "requirePoint", "(III)V"⟩ prog_1_method_17_code 4 none :: tb
abbrev b_R_requireWithin : ByteArray := prog_1_method_14_code
abbrev y_R_requireWithin : MethodName := ⟨"RoomEchoes", "requireWithin", "(III)V"⟩
abbrev w_R_requireWithin : List Cond := .code ⟨"RoomEchoes", "requireWithin", "(III)V"⟩ prog_1_method_14_code 3 none :: tb
abbrev b_R_forgetOrder : ByteArray := prog_1_method_34_code
abbrev y_R_forgetOrder : MethodName := ⟨"RoomEchoes", "forgetOrder", "()V"⟩
abbrev w_R_forgetOrder : List Cond := .code ⟨"RoomEchoes", "forgetOrder", "()V"⟩ prog_1_method_34_code 1 none :: tb
abbrev b_L_listener : ByteArray := method_4_code
abbrev y_L_listener : MethodName := ⟨"RoomEchoesLaw", "listener", "(LRoomEchoes;III)I"⟩
abbrev w_L_listener : List Cond := .codeWith ⟨"RoomEchoesLaw", "listener", "(LRoomEchoes;III)I"⟩ method_4_code 5 (some .int) [(0, 7, 10, 13)] :: tb
abbrev b_R_listener : ByteArray := prog_1_method_3_code
abbrev y_R_listener : MethodName := ⟨"RoomEchoes", "listener", "(III)V"⟩
abbrev w_R_listener : List Cond := .code ⟨"RoomEchoes", "listener", "(III)V"⟩ prog_1_method_3_code 4 none :: tb
abbrev b_L_keeps : ByteArray := method_5_code
abbrev y_L_keeps : MethodName := ⟨"RoomEchoesLaw", "keeps", "(LRoomEchoes;II[J)I"⟩
abbrev w_L_keeps : List Cond := .codeWith ⟨"RoomEchoesLaw", "keeps", "(LRoomEchoes;II[J)I"⟩ method_5_code 5 (some .int) [(0, 10, 13, 13)] :: tb
abbrev b_R_keeps : ByteArray := prog_1_method_4_code
abbrev y_R_keeps : MethodName := ⟨"RoomEchoes", "keeps", "(II)I"⟩
abbrev w_R_keeps : List Cond := .code ⟨"RoomEchoes", "keeps", "(II)I"⟩ prog_1_method_4_code 4 (some .int) :: tb
abbrev b_L_image : ByteArray := method_6_code
abbrev y_L_image : MethodName := ⟨"RoomEchoesLaw", "image", "(LRoomEchoes;IIII[J)I"⟩
abbrev w_L_image : List Cond := .codeWith ⟨"RoomEchoesLaw", "image", "(LRoomEchoes;IIII[J)I"⟩ method_6_code 7 (some .int) [(0, 13, 16, 13)] :: tb
abbrev b_R_image : ByteArray := prog_1_method_5_code
abbrev y_R_image : MethodName := ⟨"RoomEchoes", "image", "(IIII)J"⟩
abbrev w_R_image : List Cond := .code ⟨"RoomEchoes", "image", "(IIII)J"⟩ prog_1_method_5_code 5 (some .long) :: tb
abbrev b_R_requireNumbers : ByteArray := prog_1_method_16_code
abbrev y_R_requireNumbers : MethodName := ⟨"RoomEchoes", "requireNumbers", "(III)V"⟩
abbrev w_R_requireNumbers : List Cond := .code ⟨"RoomEchoes", "requireNumbers", "(III)V"⟩ prog_1_method_16_code 3 none :: tb
abbrev b_R_distanceOf : ByteArray := prog_1_method_18_code
abbrev y_R_distanceOf : MethodName := ⟨"RoomEchoes", "distanceOf", "(III)J"⟩
abbrev w_R_distanceOf : List Cond := .code ⟨"RoomEchoes", "distanceOf", "(III)J"⟩ prog_1_method_18_code 4 (some .long) :: tb
abbrev b_A_squareTo : ByteArray := prog_2_method_2_code
abbrev y_A_squareTo : MethodName := ⟨"RoomEchoes$Axis", "squareTo", "(I)J"⟩
abbrev w_A_squareTo : List Cond := .code ⟨"RoomEchoes$Axis", "squareTo", "(I)J"⟩ prog_2_method_2_code 4 (some .long) :: tb
abbrev b_A_imageAt : ByteArray := prog_2_method_3_code
abbrev y_A_imageAt : MethodName := ⟨"RoomEchoes$Axis", "imageAt", "(I)I"⟩
abbrev w_A_imageAt : List Cond := .code ⟨"RoomEchoes$Axis", "imageAt", "(I)I"⟩ prog_2_method_3_code 3 (some .int) :: tb
abbrev b_R_strengthOf : ByteArray := prog_1_method_19_code
abbrev y_R_strengthOf : MethodName := ⟨"RoomEchoes", "strengthOf", "(III)J"⟩
abbrev w_R_strengthOf : List Cond := .code ⟨"RoomEchoes", "strengthOf", "(III)J"⟩ prog_1_method_19_code 8 (some .long) :: tb
abbrev b_R_strengthAfterAxis : ByteArray := prog_1_method_20_code
abbrev y_R_strengthAfterAxis : MethodName := ⟨"RoomEchoes", "strengthAfterAxis", "(JIII)J"⟩
abbrev w_R_strengthAfterAxis : List Cond := .code ⟨"RoomEchoes", "strengthAfterAxis", "(JIII)J"⟩ prog_1_method_20_code 7 (some .long) :: tb
abbrev b_R_hitsAtZero : ByteArray := prog_1_method_22_code
abbrev y_R_hitsAtZero : MethodName := ⟨"RoomEchoes", "hitsAtZero", "(I)I"⟩
abbrev w_R_hitsAtZero : List Cond := .code ⟨"RoomEchoes", "hitsAtZero", "(I)I"⟩ prog_1_method_22_code 1 (some .int) :: tb
abbrev b_R_strengthAfterHits : ByteArray := prog_1_method_21_code
abbrev y_R_strengthAfterHits : MethodName := ⟨"RoomEchoes", "strengthAfterHits", "(JII)J"⟩
abbrev w_R_strengthAfterHits : List Cond := .code ⟨"RoomEchoes", "strengthAfterHits", "(JII)J"⟩ prog_1_method_21_code 7 (some .long) :: tb
abbrev b_R_hitsAtSize : ByteArray := prog_1_method_23_code
abbrev y_R_hitsAtSize : MethodName := ⟨"RoomEchoes", "hitsAtSize", "(I)I"⟩
abbrev w_R_hitsAtSize : List Cond := .code ⟨"RoomEchoes", "hitsAtSize", "(I)I"⟩ prog_1_method_23_code 1 (some .int) :: tb
abbrev b_R_loudnessOf : ByteArray := prog_1_method_26_code
abbrev y_R_loudnessOf : MethodName := ⟨"RoomEchoes", "loudnessOf", "(JJ)J"⟩
abbrev w_R_loudnessOf : List Cond := .code ⟨"RoomEchoes", "loudnessOf", "(JJ)J"⟩ prog_1_method_26_code 6 (some .long) :: tb
abbrev b_R_hitsOf : ByteArray := prog_1_method_25_code
abbrev y_R_hitsOf : MethodName := ⟨"RoomEchoes", "hitsOf", "(III)I"⟩
abbrev w_R_hitsOf : List Cond := .code ⟨"RoomEchoes", "hitsOf", "(III)I"⟩ prog_1_method_25_code 3 (some .int) :: tb
abbrev b_R_hitsOn : ByteArray := prog_1_method_24_code
abbrev y_R_hitsOn : MethodName := ⟨"RoomEchoes", "hitsOn", "(I)I"⟩
abbrev w_R_hitsOn : List Cond := .code ⟨"RoomEchoes", "hitsOn", "(I)I"⟩ prog_1_method_24_code 1 (some .int) :: tb
abbrev b_L_echo : ByteArray := method_7_code
abbrev y_L_echo : MethodName := ⟨"RoomEchoesLaw", "echo", "(LRoomEchoes;II[J)I"⟩
abbrev w_L_echo : List Cond := .codeWith ⟨"RoomEchoesLaw", "echo", "(LRoomEchoes;II[J)I"⟩ method_7_code 5 (some .int) [(0, 9, 12, 13)] :: tb
abbrev b_R_echo : ByteArray := prog_1_method_6_code
abbrev y_R_echo : MethodName := ⟨"RoomEchoes", "echo", "(II)J"⟩
abbrev w_R_echo : List Cond := .code ⟨"RoomEchoes", "echo", "(II)J"⟩ prog_1_method_6_code 8 (some .long) :: tb
abbrev b_R_orderEchoes : ByteArray := prog_1_method_35_code
abbrev y_R_orderEchoes : MethodName := ⟨"RoomEchoes", "orderEchoes", "()V"⟩
abbrev w_R_orderEchoes : List Cond := .code ⟨"RoomEchoes", "orderEchoes", "()V"⟩ prog_1_method_35_code 4 none :: tb
abbrev b_A_order : ByteArray := prog_2_method_4_code
abbrev y_A_order : MethodName := ⟨"RoomEchoes$Axis", "order", "()V"⟩
abbrev w_A_order : List Cond := .code ⟨"RoomEchoes$Axis", "order", "()V"⟩ prog_2_method_4_code 3 none :: tb
abbrev b_A_insert : ByteArray := prog_2_method_5_code
abbrev y_A_insert : MethodName := ⟨"RoomEchoes$Axis", "insert", "(II)V"⟩
abbrev w_A_insert : List Cond := .code ⟨"RoomEchoes$Axis", "insert", "(II)V"⟩ prog_2_method_5_code 6 none :: tb
abbrev b_R_withNumberBelow : ByteArray := prog_1_method_28_code
abbrev y_R_withNumberBelow : MethodName := ⟨"RoomEchoes", "withNumberBelow", "(JI)J"⟩
abbrev w_R_withNumberBelow : List Cond := .code ⟨"RoomEchoes", "withNumberBelow", "(JI)J"⟩ prog_1_method_28_code 3 (some .long) :: tb
abbrev b_A_numberAt : ByteArray := prog_2_method_7_code
abbrev y_A_numberAt : MethodName := ⟨"RoomEchoes$Axis", "numberAt", "(I)I"⟩
abbrev w_A_numberAt : List Cond := .code ⟨"RoomEchoes$Axis", "numberAt", "(I)I"⟩ prog_2_method_7_code 2 (some .int) :: tb
abbrev b_R_lowestNumberIn : ByteArray := prog_1_method_29_code
abbrev y_R_lowestNumberIn : MethodName := ⟨"RoomEchoes", "lowestNumberIn", "(J)I"⟩
abbrev w_R_lowestNumberIn : List Cond := .code ⟨"RoomEchoes", "lowestNumberIn", "(J)I"⟩ prog_1_method_29_code 2 (some .int) :: tb
abbrev b_F_clear : ByteArray := prog_3_method_2_code
abbrev y_F_clear : MethodName := ⟨"RoomEchoes$Frontier", "clear", "()V"⟩
abbrev w_F_clear : List Cond := .code ⟨"RoomEchoes$Frontier", "clear", "()V"⟩ prog_3_method_2_code 1 none :: tb
abbrev b_R_addAtRanks : ByteArray := prog_1_method_37_code
abbrev y_R_addAtRanks : MethodName := ⟨"RoomEchoes", "addAtRanks", "(III)V"⟩
abbrev w_R_addAtRanks : List Cond := .code ⟨"RoomEchoes", "addAtRanks", "(III)V"⟩ prog_1_method_37_code 6 none :: tb
abbrev b_A_squareAt : ByteArray := prog_2_method_6_code
abbrev y_A_squareAt : MethodName := ⟨"RoomEchoes$Axis", "squareAt", "(I)J"⟩
abbrev w_A_squareAt : List Cond := .code ⟨"RoomEchoes$Axis", "squareAt", "(I)J"⟩ prog_2_method_6_code 2 (some .long) :: tb
abbrev b_R_keyOf : ByteArray := prog_1_method_27_code
abbrev y_R_keyOf : MethodName := ⟨"RoomEchoes", "keyOf", "(JIII)J"⟩
abbrev w_R_keyOf : List Cond := .code ⟨"RoomEchoes", "keyOf", "(JIII)J"⟩ prog_1_method_27_code 7 (some .long) :: tb
abbrev b_F_add : ByteArray := prog_3_method_3_code
abbrev y_F_add : MethodName := ⟨"RoomEchoes$Frontier", "add", "(J)V"⟩
abbrev w_F_add : List Cond := .code ⟨"RoomEchoes$Frontier", "add", "(J)V"⟩ prog_3_method_3_code 4 none :: tb
abbrev b_F_takeLeast : ByteArray := prog_3_method_4_code
abbrev y_F_takeLeast : MethodName := ⟨"RoomEchoes$Frontier", "takeLeast", "()J"⟩
abbrev w_F_takeLeast : List Cond := .code ⟨"RoomEchoes$Frontier", "takeLeast", "()J"⟩ prog_3_method_4_code 3 (some .long) :: tb
abbrev b_F_sinkFromTop : ByteArray := prog_3_method_5_code
abbrev y_F_sinkFromTop : MethodName := ⟨"RoomEchoes$Frontier", "sinkFromTop", "(J)V"⟩
abbrev w_F_sinkFromTop : List Cond := .code ⟨"RoomEchoes$Frontier", "sinkFromTop", "(J)V"⟩ prog_3_method_5_code 5 none :: tb
abbrev b_F_lesserOf : ByteArray := prog_3_method_6_code
abbrev y_F_lesserOf : MethodName := ⟨"RoomEchoes$Frontier", "lesserOf", "(I)I"⟩
abbrev w_F_lesserOf : List Cond := .code ⟨"RoomEchoes$Frontier", "lesserOf", "(I)I"⟩ prog_3_method_6_code 3 (some .int) :: tb
abbrev b_R_addFollowers : ByteArray := prog_1_method_36_code
abbrev y_R_addFollowers : MethodName := ⟨"RoomEchoes", "addFollowers", "(J)V"⟩
abbrev w_R_addFollowers : List Cond := .code ⟨"RoomEchoes", "addFollowers", "(J)V"⟩ prog_1_method_36_code 6 none :: tb
abbrev b_R_firstNumberIn : ByteArray := prog_1_method_31_code
abbrev y_R_firstNumberIn : MethodName := ⟨"RoomEchoes", "firstNumberIn", "(J)I"⟩
abbrev w_R_firstNumberIn : List Cond := .code ⟨"RoomEchoes", "firstNumberIn", "(J)I"⟩ prog_1_method_31_code 2 (some .int) :: tb
abbrev b_A_rankOf : ByteArray := prog_2_method_8_code
abbrev y_A_rankOf : MethodName := ⟨"RoomEchoes$Axis", "rankOf", "(I)I"⟩
abbrev w_A_rankOf : List Cond := .code ⟨"RoomEchoes$Axis", "rankOf", "(I)I"⟩ prog_2_method_8_code 3 (some .int) :: tb
abbrev b_R_secondNumberIn : ByteArray := prog_1_method_32_code
abbrev y_R_secondNumberIn : MethodName := ⟨"RoomEchoes", "secondNumberIn", "(J)I"⟩
abbrev w_R_secondNumberIn : List Cond := .code ⟨"RoomEchoes", "secondNumberIn", "(J)I"⟩ prog_1_method_32_code 2 (some .int) :: tb
abbrev b_R_thirdNumberIn : ByteArray := prog_1_method_33_code
abbrev y_R_thirdNumberIn : MethodName := ⟨"RoomEchoes", "thirdNumberIn", "(J)I"⟩
abbrev w_R_thirdNumberIn : List Cond := .code ⟨"RoomEchoes", "thirdNumberIn", "(J)I"⟩ prog_1_method_33_code 2 (some .int) :: tb
abbrev b_L_place : ByteArray := method_8_code
abbrev y_L_place : MethodName := ⟨"RoomEchoesLaw", "place", "(LRoomEchoes;III[J)I"⟩
abbrev w_L_place : List Cond := .codeWith ⟨"RoomEchoesLaw", "place", "(LRoomEchoes;III[J)I"⟩ method_8_code 6 (some .int) [(0, 12, 15, 13)] :: tb
abbrev b_R_place : ByteArray := prog_1_method_7_code
abbrev y_R_place : MethodName := ⟨"RoomEchoes", "place", "(III)I"⟩
abbrev w_R_place : List Cond := .code ⟨"RoomEchoes", "place", "(III)I"⟩ prog_1_method_7_code 7 (some .int) :: tb
abbrev b_L_until : ByteArray := method_9_code
abbrev y_L_until : MethodName := ⟨"RoomEchoesLaw", "until", "(LRoomEchoes;J[J)I"⟩
abbrev w_L_until : List Cond := .codeWith ⟨"RoomEchoesLaw", "until", "(LRoomEchoes;J[J)I"⟩ method_9_code 5 (some .int) [(0, 9, 12, 13)] :: tb
abbrev b_R_until : ByteArray := prog_1_method_8_code
abbrev y_R_until : MethodName := ⟨"RoomEchoes", "until", "(J)I"⟩
abbrev w_R_until : List Cond := .code ⟨"RoomEchoes", "until", "(J)I"⟩ prog_1_method_8_code 3 (some .int) :: tb
abbrev b_R_requireDistance : ByteArray := prog_1_method_15_code
abbrev y_R_requireDistance : MethodName := ⟨"RoomEchoes", "requireDistance", "(J)V"⟩
abbrev w_R_requireDistance : List Cond := .code ⟨"RoomEchoes", "requireDistance", "(J)V"⟩ prog_1_method_15_code 2 none :: tb
abbrev b_R_countWithin : ByteArray := prog_1_method_39_code
abbrev y_R_countWithin : MethodName := ⟨"RoomEchoes", "countWithin", "(J)I"⟩
abbrev w_R_countWithin : List Cond := .code ⟨"RoomEchoes", "countWithin", "(J)I"⟩ prog_1_method_39_code 4 (some .int) :: tb
abbrev b_R_distanceIn : ByteArray := prog_1_method_30_code
abbrev y_R_distanceIn : MethodName := ⟨"RoomEchoes", "distanceIn", "(J)J"⟩
abbrev w_R_distanceIn : List Cond := .code ⟨"RoomEchoes", "distanceIn", "(J)J"⟩ prog_1_method_30_code 2 (some .long) :: tb
abbrev b_L_loud : ByteArray := method_10_code
abbrev y_L_loud : MethodName := ⟨"RoomEchoesLaw", "loud", "(LRoomEchoes;II[J)I"⟩
abbrev w_L_loud : List Cond := .codeWith ⟨"RoomEchoesLaw", "loud", "(LRoomEchoes;II[J)I"⟩ method_10_code 5 (some .int) [(0, 9, 12, 13)] :: tb
abbrev b_R_loud : ByteArray := prog_1_method_9_code
abbrev y_R_loud : MethodName := ⟨"RoomEchoes", "loud", "(II)J"⟩
abbrev w_R_loud : List Cond := .code ⟨"RoomEchoes", "loud", "(II)J"⟩ prog_1_method_9_code 3 (some .long) :: tb
abbrev b_R_weighEchoes : ByteArray := prog_1_method_38_code
abbrev y_R_weighEchoes : MethodName := ⟨"RoomEchoes", "weighEchoes", "()V"⟩
abbrev w_R_weighEchoes : List Cond := .code ⟨"RoomEchoes", "weighEchoes", "()V"⟩ prog_1_method_38_code 6 none :: tb
abbrev b_R_loudnessBetween : ByteArray := prog_1_method_40_code
abbrev y_R_loudnessBetween : MethodName := ⟨"RoomEchoes", "loudnessBetween", "(II)J"⟩
abbrev w_R_loudnessBetween : List Cond := .code ⟨"RoomEchoes", "loudnessBetween", "(II)J"⟩ prog_1_method_40_code 6 (some .long) :: tb
abbrev b_L_early : ByteArray := method_11_code
abbrev y_L_early : MethodName := ⟨"RoomEchoesLaw", "early", "(LRoomEchoes;JI[J)I"⟩
abbrev w_L_early : List Cond := .codeWith ⟨"RoomEchoesLaw", "early", "(LRoomEchoes;JI[J)I"⟩ method_11_code 6 (some .int) [(0, 10, 13, 13)] :: tb
abbrev b_R_early : ByteArray := prog_1_method_10_code
abbrev y_R_early : MethodName := ⟨"RoomEchoes", "early", "(JI)J"⟩
abbrev w_R_early : List Cond := .code ⟨"RoomEchoes", "early", "(JI)J"⟩ prog_1_method_10_code 10 (some .long) :: tb
abbrev b_R_greatestCommonDivisor : ByteArray := prog_1_method_41_code
abbrev y_R_greatestCommonDivisor : MethodName := ⟨"RoomEchoes", "greatestCommonDivisor", "(JJ)J"⟩
abbrev w_R_greatestCommonDivisor : List Cond := .code ⟨"RoomEchoes", "greatestCommonDivisor", "(JJ)J"⟩ prog_1_method_41_code 11 (some .long) :: tb
abbrev b_L_enough : ByteArray := method_12_code
abbrev y_L_enough : MethodName := ⟨"RoomEchoesLaw", "enough", "(LRoomEchoes;I[J)I"⟩
abbrev w_L_enough : List Cond := .codeWith ⟨"RoomEchoesLaw", "enough", "(LRoomEchoes;I[J)I"⟩ method_12_code 4 (some .int) [(0, 9, 12, 13)] :: tb
abbrev b_R_enough : ByteArray := prog_1_method_11_code
abbrev y_R_enough : MethodName := ⟨"RoomEchoes", "enough", "(I)I"⟩
abbrev w_R_enough : List Cond := .code ⟨"RoomEchoes", "enough", "(I)I"⟩ prog_1_method_11_code 7 (some .int) :: tb
abbrev b_L_loudest : ByteArray := method_13_code
abbrev y_L_loudest : MethodName := ⟨"RoomEchoesLaw", "loudest", "(LRoomEchoes;I[J)I"⟩
abbrev w_L_loudest : List Cond := .codeWith ⟨"RoomEchoesLaw", "loudest", "(LRoomEchoes;I[J)I"⟩ method_13_code 4 (some .int) [(0, 9, 12, 13)] :: tb
abbrev b_R_loudest : ByteArray := prog_1_method_12_code
abbrev y_R_loudest : MethodName := ⟨"RoomEchoes", "loudest", "(I)I"⟩
abbrev w_R_loudest : List Cond := .code ⟨"RoomEchoes", "loudest", "(I)I"⟩ prog_1_method_12_code 6 (some .int) :: tb
abbrev b_M_init : ByteArray := prog_5_method_1_code
abbrev y_M_init : MethodName := ⟨"RoomEchoesModel", "<init>", "(III)V"⟩
abbrev w_M_init : List Cond := .code ⟨"RoomEchoesModel", "<init>", "(III)V"⟩ prog_5_method_1_code 5 none :: tb
abbrev b_M_thrown : ByteArray := prog_5_method_2_code
abbrev y_M_thrown : MethodName := ⟨"RoomEchoesModel", "thrown", "()I"⟩
abbrev w_M_thrown : List Cond := .code ⟨"RoomEchoesModel", "thrown", "()I"⟩ prog_5_method_2_code 1 (some .int) :: tb
abbrev b_M_source : ByteArray := prog_5_method_5_code
abbrev y_M_source : MethodName := ⟨"RoomEchoesModel", "source", "(III)V"⟩
abbrev w_M_source : List Cond := .code ⟨"RoomEchoesModel", "source", "(III)V"⟩ prog_5_method_5_code 4 none :: tb
abbrev b_M_isPoint : ByteArray := prog_5_method_4_code
abbrev y_M_isPoint : MethodName := ⟨"RoomEchoesModel", "isPoint", "(III)Z"⟩
abbrev w_M_isPoint : List Cond := .code ⟨"RoomEchoesModel", "isPoint", "(III)Z"⟩ prog_5_method_4_code 4 (some .boolean) :: tb
abbrev b_M_in : ByteArray := prog_5_method_3_code
abbrev y_M_in : MethodName := ⟨"RoomEchoesModel", "in", "(JJJ)Z"⟩
abbrev w_M_in : List Cond := .code ⟨"RoomEchoesModel", "in", "(JJJ)Z"⟩ prog_5_method_3_code 6 (some .boolean) :: tb
abbrev b_M_listener : ByteArray := prog_5_method_6_code
abbrev y_M_listener : MethodName := ⟨"RoomEchoesModel", "listener", "(III)V"⟩
abbrev w_M_listener : List Cond := .code ⟨"RoomEchoesModel", "listener", "(III)V"⟩ prog_5_method_6_code 4 none :: tb
abbrev b_M_keeps : ByteArray := prog_5_method_7_code
abbrev y_M_keeps : MethodName := ⟨"RoomEchoesModel", "keeps", "(II)I"⟩
abbrev w_M_keeps : List Cond := .code ⟨"RoomEchoesModel", "keeps", "(II)I"⟩ prog_5_method_7_code 4 (some .int) :: tb
abbrev b_M_image : ByteArray := prog_5_method_17_code
abbrev y_M_image : MethodName := ⟨"RoomEchoesModel", "image", "(IIII)J"⟩
abbrev w_M_image : List Cond := .code ⟨"RoomEchoesModel", "image", "(IIII)J"⟩ prog_5_method_17_code 5 (some .long) :: tb
abbrev b_M_isImage : ByteArray := prog_5_method_16_code
abbrev y_M_isImage : MethodName := ⟨"RoomEchoesModel", "isImage", "(III)Z"⟩
abbrev w_M_isImage : List Cond := .code ⟨"RoomEchoesModel", "isImage", "(III)Z"⟩ prog_5_method_16_code 3 (some .boolean) :: tb
abbrev b_M_told : ByteArray := prog_5_method_15_code
abbrev y_M_told : MethodName := ⟨"RoomEchoesModel", "told", "(IIII)J"⟩
abbrev w_M_told : List Cond := .code ⟨"RoomEchoesModel", "told", "(IIII)J"⟩ prog_5_method_15_code 5 (some .long) :: tb
abbrev b_M_distance : ByteArray := prog_5_method_11_code
abbrev y_M_distance : MethodName := ⟨"RoomEchoesModel", "distance", "(III)J"⟩
abbrev w_M_distance : List Cond := .code ⟨"RoomEchoesModel", "distance", "(III)J"⟩ prog_5_method_11_code 4 (some .long) :: tb
abbrev b_M_square : ByteArray := prog_5_method_8_code
abbrev y_M_square : MethodName := ⟨"RoomEchoesModel", "square", "(II)J"⟩
abbrev w_M_square : List Cond := .code ⟨"RoomEchoesModel", "square", "(II)J"⟩ prog_5_method_8_code 7 (some .long) :: tb
abbrev b_M_strength : ByteArray := prog_5_method_13_code
abbrev y_M_strength : MethodName := ⟨"RoomEchoesModel", "strength", "(III)J"⟩
abbrev w_M_strength : List Cond := .code ⟨"RoomEchoesModel", "strength", "(III)J"⟩ prog_5_method_13_code 6 (some .long) :: tb
abbrev b_M_hitsLow : ByteArray := prog_5_method_10_code
abbrev y_M_hitsLow : MethodName := ⟨"RoomEchoesModel", "hitsLow", "(I)I"⟩
abbrev w_M_hitsLow : List Cond := .code ⟨"RoomEchoesModel", "hitsLow", "(I)I"⟩ prog_5_method_10_code 1 (some .int) :: tb
abbrev b_M_kept : ByteArray := prog_5_method_12_code
abbrev y_M_kept : MethodName := ⟨"RoomEchoesModel", "kept", "(JII)J"⟩
abbrev w_M_kept : List Cond := .code ⟨"RoomEchoesModel", "kept", "(JII)J"⟩ prog_5_method_12_code 8 (some .long) :: tb
abbrev b_M_hitsHigh : ByteArray := prog_5_method_9_code
abbrev y_M_hitsHigh : MethodName := ⟨"RoomEchoesModel", "hitsHigh", "(I)I"⟩
abbrev w_M_hitsHigh : List Cond := .code ⟨"RoomEchoesModel", "hitsHigh", "(I)I"⟩ prog_5_method_9_code 1 (some .int) :: tb
abbrev b_M_hits : ByteArray := prog_5_method_14_code
abbrev y_M_hits : MethodName := ⟨"RoomEchoesModel", "hits", "(I)I"⟩
abbrev w_M_hits : List Cond := .code ⟨"RoomEchoesModel", "hits", "(I)I"⟩ prog_5_method_14_code 1 (some .int) :: tb
abbrev b_M_echo : ByteArray := prog_5_method_23_code
abbrev y_M_echo : MethodName := ⟨"RoomEchoesModel", "echo", "(II)J"⟩
abbrev w_M_echo : List Cond := .code ⟨"RoomEchoesModel", "echo", "(II)J"⟩ prog_5_method_23_code 3 (some .long) :: tb
abbrev b_M_make : ByteArray := prog_5_method_20_code
abbrev y_M_make : MethodName := ⟨"RoomEchoesModel", "make", "()V"⟩
abbrev w_M_make : List Cond := .code ⟨"RoomEchoesModel", "make", "()V"⟩ prog_5_method_20_code 7 none :: tb
abbrev b_M_prepare : ByteArray := prog_5_method_18_code
abbrev y_M_prepare : MethodName := ⟨"RoomEchoesModel", "prepare", "()V"⟩
abbrev w_M_prepare : List Cond := .code ⟨"RoomEchoesModel", "prepare", "()V"⟩ prog_5_method_18_code 6 none :: tb
abbrev b_M_isEnough : ByteArray := prog_5_method_19_code
abbrev y_M_isEnough : MethodName := ⟨"RoomEchoesModel", "isEnough", "(J)Z"⟩
abbrev w_M_isEnough : List Cond := .code ⟨"RoomEchoesModel", "isEnough", "(J)Z"⟩ prog_5_method_19_code 9 (some .boolean) :: tb
abbrev b_M_collect : ByteArray := prog_5_method_21_code
abbrev y_M_collect : MethodName := ⟨"RoomEchoesModel", "collect", "(IJJ)I"⟩
abbrev w_M_collect : List Cond := .code ⟨"RoomEchoesModel", "collect", "(IJJ)I"⟩ prog_5_method_21_code 14 (some .int) :: tb
abbrev b_M_put : ByteArray := prog_5_method_22_code
abbrev y_M_put : MethodName := ⟨"RoomEchoesModel", "put", "(IJIII)V"⟩
abbrev w_M_put : List Cond := .code ⟨"RoomEchoesModel", "put", "(IJIII)V"⟩ prog_5_method_22_code 8 none :: tb
abbrev b_M_place : ByteArray := prog_5_method_24_code
abbrev y_M_place : MethodName := ⟨"RoomEchoesModel", "place", "(III)I"⟩
abbrev w_M_place : List Cond := .code ⟨"RoomEchoesModel", "place", "(III)I"⟩ prog_5_method_24_code 6 (some .int) :: tb
abbrev b_M_until : ByteArray := prog_5_method_26_code
abbrev y_M_until : MethodName := ⟨"RoomEchoesModel", "until", "(J)I"⟩
abbrev w_M_until : List Cond := .code ⟨"RoomEchoesModel", "until", "(J)I"⟩ prog_5_method_26_code 3 (some .int) :: tb
abbrev b_M_countUntil : ByteArray := prog_5_method_25_code
abbrev y_M_countUntil : MethodName := ⟨"RoomEchoesModel", "countUntil", "(J)I"⟩
abbrev w_M_countUntil : List Cond := .code ⟨"RoomEchoesModel", "countUntil", "(J)I"⟩ prog_5_method_25_code 4 (some .int) :: tb
abbrev b_M_loud : ByteArray := prog_5_method_29_code
abbrev y_M_loud : MethodName := ⟨"RoomEchoesModel", "loud", "(II)J"⟩
abbrev w_M_loud : List Cond := .code ⟨"RoomEchoesModel", "loud", "(II)J"⟩ prog_5_method_29_code 3 (some .long) :: tb
abbrev b_M_first : ByteArray := prog_5_method_28_code
abbrev y_M_first : MethodName := ⟨"RoomEchoesModel", "first", "(I)J"⟩
abbrev w_M_first : List Cond := .code ⟨"RoomEchoesModel", "first", "(I)J"⟩ prog_5_method_28_code 5 (some .long) :: tb
abbrev b_M_loudness : ByteArray := prog_5_method_27_code
abbrev y_M_loudness : MethodName := ⟨"RoomEchoesModel", "loudness", "(I)J"⟩
abbrev w_M_loudness : List Cond := .code ⟨"RoomEchoesModel", "loudness", "(I)J"⟩ prog_5_method_27_code 2 (some .long) :: tb
abbrev b_M_early : ByteArray := prog_5_method_31_code
abbrev y_M_early : MethodName := ⟨"RoomEchoesModel", "early", "(JI)J"⟩
abbrev w_M_early : List Cond := .code ⟨"RoomEchoesModel", "early", "(JI)J"⟩ prog_5_method_31_code 10 (some .long) :: tb
abbrev b_M_common : ByteArray := prog_5_method_30_code
abbrev y_M_common : MethodName := ⟨"RoomEchoesModel", "common", "(JJ)J"⟩
abbrev w_M_common : List Cond := .code ⟨"RoomEchoesModel", "common", "(JJ)J"⟩ prog_5_method_30_code 10 (some .long) :: tb
abbrev b_M_enough : ByteArray := prog_5_method_32_code
abbrev y_M_enough : MethodName := ⟨"RoomEchoesModel", "enough", "(I)I"⟩
abbrev w_M_enough : List Cond := .code ⟨"RoomEchoesModel", "enough", "(I)I"⟩ prog_5_method_32_code 7 (some .int) :: tb
abbrev b_M_loudest : ByteArray := prog_5_method_33_code
abbrev y_M_loudest : MethodName := ⟨"RoomEchoesModel", "loudest", "(I)I"⟩
abbrev w_M_loudest : List Cond := .code ⟨"RoomEchoesModel", "loudest", "(I)I"⟩ prog_5_method_33_code 4 (some .int) :: tb
end
section
theorem d_A_init_0 : decode b_A_init 0 = .ok (.aload_n 0, 1) := by decide +kernel
theorem d_A_init_1 : decode b_A_init 1 = .ok (.invokespecial 3, 3) := by decide +kernel
theorem d_A_init_4 : decode b_A_init 4 = .ok (.aload_n 0, 1) := by decide +kernel
theorem d_A_init_5 : decode b_A_init 5 = .ok (.bipush 81, 2) := by decide +kernel
theorem d_A_init_7 : decode b_A_init 7 = .ok (.newarray .long, 2) := by decide +kernel
theorem d_A_init_9 : decode b_A_init 9 = .ok (.putfield 9, 3) := by decide +kernel
theorem d_A_init_12 : decode b_A_init 12 = .ok (.aload_n 0, 1) := by decide +kernel
theorem d_A_init_13 : decode b_A_init 13 = .ok (.bipush 81, 2) := by decide +kernel
theorem d_A_init_15 : decode b_A_init 15 = .ok (.newarray .int, 2) := by decide +kernel
theorem d_A_init_17 : decode b_A_init 17 = .ok (.putfield 15, 3) := by decide +kernel
theorem d_A_init_20 : decode b_A_init 20 = .ok (.aload_n 0, 1) := by decide +kernel
theorem d_A_init_21 : decode b_A_init 21 = .ok (.iload_n 1, 1) := by decide +kernel
theorem d_A_init_22 : decode b_A_init 22 = .ok (.putfield 19, 3) := by decide +kernel
theorem d_A_init_25 : decode b_A_init 25 = .ok (.return_, 1) := by decide +kernel
theorem d_A_squareTo_0 : decode b_A_squareTo 0 = .ok (.aload_n 0, 1) := by decide +kernel
theorem d_A_squareTo_1 : decode b_A_squareTo 1 = .ok (.iload_n 1, 1) := by decide +kernel
theorem d_A_squareTo_2 : decode b_A_squareTo 2 = .ok (.invokevirtual 23, 3) := by decide +kernel
theorem d_A_squareTo_5 : decode b_A_squareTo 5 = .ok (.aload_n 0, 1) := by decide +kernel
theorem d_A_squareTo_6 : decode b_A_squareTo 6 = .ok (.getfield 27, 3) := by decide +kernel
theorem d_A_squareTo_9 : decode b_A_squareTo 9 = .ok (.isub, 1) := by decide +kernel
theorem d_A_squareTo_10 : decode b_A_squareTo 10 = .ok (.i2l, 1) := by decide +kernel
theorem d_A_squareTo_11 : decode b_A_squareTo 11 = .ok (.lstore_n 2, 1) := by decide +kernel
theorem d_A_squareTo_12 : decode b_A_squareTo 12 = .ok (.lload_n 2, 1) := by decide +kernel
theorem d_A_squareTo_13 : decode b_A_squareTo 13 = .ok (.lload_n 2, 1) := by decide +kernel
theorem d_A_squareTo_14 : decode b_A_squareTo 14 = .ok (.lmul, 1) := by decide +kernel
theorem d_A_squareTo_15 : decode b_A_squareTo 15 = .ok (.lreturn, 1) := by decide +kernel
theorem d_A_imageAt_0 : decode b_A_imageAt 0 = .ok (.iload_n 1, 1) := by decide +kernel
theorem d_A_imageAt_1 : decode b_A_imageAt 1 = .ok (.iconst 1, 1) := by decide +kernel
theorem d_A_imageAt_2 : decode b_A_imageAt 2 = .ok (.iand, 1) := by decide +kernel
theorem d_A_imageAt_3 : decode b_A_imageAt 3 = .ok (.ifCond .ne 7, 3) := by decide +kernel
theorem d_A_imageAt_6 : decode b_A_imageAt 6 = .ok (.iconst 1, 1) := by decide +kernel
theorem d_A_imageAt_7 : decode b_A_imageAt 7 = .ok (.goto 4, 3) := by decide +kernel
theorem d_A_imageAt_10 : decode b_A_imageAt 10 = .ok (.iconst 0, 1) := by decide +kernel
theorem d_A_imageAt_11 : decode b_A_imageAt 11 = .ok (.istore_n 2, 1) := by decide +kernel
theorem d_A_imageAt_12 : decode b_A_imageAt 12 = .ok (.iload_n 1, 1) := by decide +kernel
theorem d_A_imageAt_13 : decode b_A_imageAt 13 = .ok (.aload_n 0, 1) := by decide +kernel
theorem d_A_imageAt_14 : decode b_A_imageAt 14 = .ok (.getfield 19, 3) := by decide +kernel
theorem d_A_imageAt_17 : decode b_A_imageAt 17 = .ok (.imul, 1) := by decide +kernel
theorem d_A_imageAt_18 : decode b_A_imageAt 18 = .ok (.iload_n 2, 1) := by decide +kernel
theorem d_A_imageAt_19 : decode b_A_imageAt 19 = .ok (.ifCond .eq 10, 3) := by decide +kernel
theorem d_A_imageAt_22 : decode b_A_imageAt 22 = .ok (.aload_n 0, 1) := by decide +kernel
theorem d_A_imageAt_23 : decode b_A_imageAt 23 = .ok (.getfield 30, 3) := by decide +kernel
theorem d_A_imageAt_26 : decode b_A_imageAt 26 = .ok (.goto 12, 3) := by decide +kernel
theorem d_A_imageAt_29 : decode b_A_imageAt 29 = .ok (.aload_n 0, 1) := by decide +kernel
theorem d_A_imageAt_30 : decode b_A_imageAt 30 = .ok (.getfield 19, 3) := by decide +kernel
theorem d_A_imageAt_33 : decode b_A_imageAt 33 = .ok (.aload_n 0, 1) := by decide +kernel
theorem d_A_imageAt_34 : decode b_A_imageAt 34 = .ok (.getfield 30, 3) := by decide +kernel
theorem d_A_imageAt_37 : decode b_A_imageAt 37 = .ok (.isub, 1) := by decide +kernel
theorem d_A_imageAt_38 : decode b_A_imageAt 38 = .ok (.iadd, 1) := by decide +kernel
theorem d_A_imageAt_39 : decode b_A_imageAt 39 = .ok (.ireturn, 1) := by decide +kernel
theorem d_A_order_0 : decode b_A_order 0 = .ok (.aload_n 0, 1) := by decide +kernel
theorem d_A_order_1 : decode b_A_order 1 = .ok (.iconst 0, 1) := by decide +kernel
theorem d_A_order_2 : decode b_A_order 2 = .ok (.iconst 0, 1) := by decide +kernel
theorem d_A_order_3 : decode b_A_order 3 = .ok (.invokevirtual 33, 3) := by decide +kernel
theorem d_A_order_6 : decode b_A_order 6 = .ok (.iconst 1, 1) := by decide +kernel
theorem d_A_order_7 : decode b_A_order 7 = .ok (.istore_n 1, 1) := by decide +kernel
theorem d_A_order_8 : decode b_A_order 8 = .ok (.iload_n 1, 1) := by decide +kernel
theorem d_A_order_9 : decode b_A_order 9 = .ok (.bipush 40, 2) := by decide +kernel
theorem d_A_order_11 : decode b_A_order 11 = .ok (.if_icmp .gt 28, 3) := by decide +kernel
theorem d_A_order_14 : decode b_A_order 14 = .ok (.aload_n 0, 1) := by decide +kernel
theorem d_A_order_15 : decode b_A_order 15 = .ok (.iload_n 1, 1) := by decide +kernel
theorem d_A_order_16 : decode b_A_order 16 = .ok (.ineg, 1) := by decide +kernel
theorem d_A_order_17 : decode b_A_order 17 = .ok (.iconst 2, 1) := by decide +kernel
theorem d_A_order_18 : decode b_A_order 18 = .ok (.iload_n 1, 1) := by decide +kernel
theorem d_A_order_19 : decode b_A_order 19 = .ok (.imul, 1) := by decide +kernel
theorem d_A_order_20 : decode b_A_order 20 = .ok (.iconst 1, 1) := by decide +kernel
theorem d_A_order_21 : decode b_A_order 21 = .ok (.isub, 1) := by decide +kernel
theorem d_A_order_22 : decode b_A_order 22 = .ok (.invokevirtual 33, 3) := by decide +kernel
theorem d_A_order_25 : decode b_A_order 25 = .ok (.aload_n 0, 1) := by decide +kernel
theorem d_A_order_26 : decode b_A_order 26 = .ok (.iload_n 1, 1) := by decide +kernel
theorem d_A_order_27 : decode b_A_order 27 = .ok (.iconst 2, 1) := by decide +kernel
theorem d_A_order_28 : decode b_A_order 28 = .ok (.iload_n 1, 1) := by decide +kernel
theorem d_A_order_29 : decode b_A_order 29 = .ok (.imul, 1) := by decide +kernel
theorem d_A_order_30 : decode b_A_order 30 = .ok (.invokevirtual 33, 3) := by decide +kernel
theorem d_A_order_33 : decode b_A_order 33 = .ok (.iinc 1 1, 3) := by decide +kernel
theorem d_A_order_36 : decode b_A_order 36 = .ok (.goto (-28), 3) := by decide +kernel
theorem d_A_order_39 : decode b_A_order 39 = .ok (.iconst 0, 1) := by decide +kernel
theorem d_A_order_40 : decode b_A_order 40 = .ok (.istore_n 1, 1) := by decide +kernel
theorem d_A_order_41 : decode b_A_order 41 = .ok (.iload_n 1, 1) := by decide +kernel
theorem d_A_order_42 : decode b_A_order 42 = .ok (.bipush 81, 2) := by decide +kernel
theorem d_A_order_44 : decode b_A_order 44 = .ok (.if_icmp .ge 35, 3) := by decide +kernel
theorem d_A_order_47 : decode b_A_order 47 = .ok (.aload_n 0, 1) := by decide +kernel
theorem d_A_order_48 : decode b_A_order 48 = .ok (.iload_n 1, 1) := by decide +kernel
theorem d_A_order_49 : decode b_A_order 49 = .ok (.invokevirtual 37, 3) := by decide +kernel
theorem d_A_order_52 : decode b_A_order 52 = .ok (.bipush 40, 2) := by decide +kernel
theorem d_A_order_54 : decode b_A_order 54 = .ok (.iadd, 1) := by decide +kernel
theorem d_A_order_55 : decode b_A_order 55 = .ok (.istore_n 2, 1) := by decide +kernel
theorem d_A_order_56 : decode b_A_order 56 = .ok (.iload_n 2, 1) := by decide +kernel
theorem d_A_order_57 : decode b_A_order 57 = .ok (.ifCond .lt 16, 3) := by decide +kernel
theorem d_A_order_60 : decode b_A_order 60 = .ok (.iload_n 2, 1) := by decide +kernel
theorem d_A_order_61 : decode b_A_order 61 = .ok (.bipush 81, 2) := by decide +kernel
theorem d_A_order_63 : decode b_A_order 63 = .ok (.if_icmp .ge 10, 3) := by decide +kernel
theorem d_A_order_66 : decode b_A_order 66 = .ok (.aload_n 0, 1) := by decide +kernel
theorem d_A_order_67 : decode b_A_order 67 = .ok (.getfield 15, 3) := by decide +kernel
theorem d_A_order_70 : decode b_A_order 70 = .ok (.iload_n 2, 1) := by decide +kernel
theorem d_A_order_71 : decode b_A_order 71 = .ok (.iload_n 1, 1) := by decide +kernel
theorem d_A_order_72 : decode b_A_order 72 = .ok (.iastore, 1) := by decide +kernel
theorem d_A_order_73 : decode b_A_order 73 = .ok (.iinc 1 1, 3) := by decide +kernel
theorem d_A_order_76 : decode b_A_order 76 = .ok (.goto (-35), 3) := by decide +kernel
theorem d_A_order_79 : decode b_A_order 79 = .ok (.return_, 1) := by decide +kernel
theorem d_A_insert_0 : decode b_A_insert 0 = .ok (.iload_n 2, 1) := by decide +kernel
theorem d_A_insert_1 : decode b_A_insert 1 = .ok (.ifCond .lt 9, 3) := by decide +kernel
theorem d_A_insert_4 : decode b_A_insert 4 = .ok (.iload_n 2, 1) := by decide +kernel
theorem d_A_insert_5 : decode b_A_insert 5 = .ok (.bipush 81, 2) := by decide +kernel
theorem d_A_insert_7 : decode b_A_insert 7 = .ok (.if_icmp .lt 4, 3) := by decide +kernel
theorem d_A_insert_10 : decode b_A_insert 10 = .ok (.return_, 1) := by decide +kernel
theorem d_A_insert_11 : decode b_A_insert 11 = .ok (.aload_n 0, 1) := by decide +kernel
theorem d_A_insert_12 : decode b_A_insert 12 = .ok (.iload_n 1, 1) := by decide +kernel
theorem d_A_insert_13 : decode b_A_insert 13 = .ok (.invokevirtual 40, 3) := by decide +kernel
theorem d_A_insert_16 : decode b_A_insert 16 = .ok (.iload_n 1, 1) := by decide +kernel
theorem d_A_insert_17 : decode b_A_insert 17 = .ok (.invokestatic 44, 3) := by decide +kernel
theorem d_A_insert_20 : decode b_A_insert 20 = .ok (.lstore_n 3, 1) := by decide +kernel
theorem d_A_insert_21 : decode b_A_insert 21 = .ok (.iload_n 2, 1) := by decide +kernel
theorem d_A_insert_22 : decode b_A_insert 22 = .ok (.istore 5, 2) := by decide +kernel
theorem d_A_insert_24 : decode b_A_insert 24 = .ok (.iload 5, 2) := by decide +kernel
theorem d_A_insert_26 : decode b_A_insert 26 = .ok (.ifCond .le 39, 3) := by decide +kernel
theorem d_A_insert_29 : decode b_A_insert 29 = .ok (.aload_n 0, 1) := by decide +kernel
theorem d_A_insert_30 : decode b_A_insert 30 = .ok (.getfield 9, 3) := by decide +kernel
theorem d_A_insert_33 : decode b_A_insert 33 = .ok (.iload 5, 2) := by decide +kernel
theorem d_A_insert_35 : decode b_A_insert 35 = .ok (.iconst 1, 1) := by decide +kernel
theorem d_A_insert_36 : decode b_A_insert 36 = .ok (.isub, 1) := by decide +kernel
theorem d_A_insert_37 : decode b_A_insert 37 = .ok (.laload, 1) := by decide +kernel
theorem d_A_insert_38 : decode b_A_insert 38 = .ok (.lload_n 3, 1) := by decide +kernel
theorem d_A_insert_39 : decode b_A_insert 39 = .ok (.lcmp, 1) := by decide +kernel
theorem d_A_insert_40 : decode b_A_insert 40 = .ok (.ifCond .le 25, 3) := by decide +kernel
theorem d_A_insert_43 : decode b_A_insert 43 = .ok (.aload_n 0, 1) := by decide +kernel
theorem d_A_insert_44 : decode b_A_insert 44 = .ok (.getfield 9, 3) := by decide +kernel
theorem d_A_insert_47 : decode b_A_insert 47 = .ok (.iload 5, 2) := by decide +kernel
theorem d_A_insert_49 : decode b_A_insert 49 = .ok (.aload_n 0, 1) := by decide +kernel
theorem d_A_insert_50 : decode b_A_insert 50 = .ok (.getfield 9, 3) := by decide +kernel
theorem d_A_insert_53 : decode b_A_insert 53 = .ok (.iload 5, 2) := by decide +kernel
theorem d_A_insert_55 : decode b_A_insert 55 = .ok (.iconst 1, 1) := by decide +kernel
theorem d_A_insert_56 : decode b_A_insert 56 = .ok (.isub, 1) := by decide +kernel
theorem d_A_insert_57 : decode b_A_insert 57 = .ok (.laload, 1) := by decide +kernel
theorem d_A_insert_58 : decode b_A_insert 58 = .ok (.lastore, 1) := by decide +kernel
theorem d_A_insert_59 : decode b_A_insert 59 = .ok (.iinc 5 (-1), 3) := by decide +kernel
theorem d_A_insert_62 : decode b_A_insert 62 = .ok (.goto (-38), 3) := by decide +kernel
theorem d_A_insert_65 : decode b_A_insert 65 = .ok (.aload_n 0, 1) := by decide +kernel
theorem d_A_insert_66 : decode b_A_insert 66 = .ok (.getfield 9, 3) := by decide +kernel
theorem d_A_insert_69 : decode b_A_insert 69 = .ok (.iload 5, 2) := by decide +kernel
theorem d_A_insert_71 : decode b_A_insert 71 = .ok (.lload_n 3, 1) := by decide +kernel
theorem d_A_insert_72 : decode b_A_insert 72 = .ok (.lastore, 1) := by decide +kernel
theorem d_A_insert_73 : decode b_A_insert 73 = .ok (.return_, 1) := by decide +kernel
theorem d_A_squareAt_0 : decode b_A_squareAt 0 = .ok (.iload_n 1, 1) := by decide +kernel
theorem d_A_squareAt_1 : decode b_A_squareAt 1 = .ok (.ifCond .lt 21, 3) := by decide +kernel
theorem d_A_squareAt_4 : decode b_A_squareAt 4 = .ok (.iload_n 1, 1) := by decide +kernel
theorem d_A_squareAt_5 : decode b_A_squareAt 5 = .ok (.bipush 81, 2) := by decide +kernel
theorem d_A_squareAt_7 : decode b_A_squareAt 7 = .ok (.if_icmp .ge 15, 3) := by decide +kernel
theorem d_A_squareAt_10 : decode b_A_squareAt 10 = .ok (.aload_n 0, 1) := by decide +kernel
theorem d_A_squareAt_11 : decode b_A_squareAt 11 = .ok (.getfield 9, 3) := by decide +kernel
theorem d_A_squareAt_14 : decode b_A_squareAt 14 = .ok (.iload_n 1, 1) := by decide +kernel
theorem d_A_squareAt_15 : decode b_A_squareAt 15 = .ok (.laload, 1) := by decide +kernel
theorem d_A_squareAt_16 : decode b_A_squareAt 16 = .ok (.bipush 7, 2) := by decide +kernel
theorem d_A_squareAt_18 : decode b_A_squareAt 18 = .ok (.lshr, 1) := by decide +kernel
theorem d_A_squareAt_19 : decode b_A_squareAt 19 = .ok (.goto 4, 3) := by decide +kernel
theorem d_A_squareAt_22 : decode b_A_squareAt 22 = .ok (.lconst 0, 1) := by decide +kernel
theorem d_A_squareAt_23 : decode b_A_squareAt 23 = .ok (.lreturn, 1) := by decide +kernel
theorem d_A_numberAt_0 : decode b_A_numberAt 0 = .ok (.iload_n 1, 1) := by decide +kernel
theorem d_A_numberAt_1 : decode b_A_numberAt 1 = .ok (.ifCond .lt 21, 3) := by decide +kernel
theorem d_A_numberAt_4 : decode b_A_numberAt 4 = .ok (.iload_n 1, 1) := by decide +kernel
theorem d_A_numberAt_5 : decode b_A_numberAt 5 = .ok (.bipush 81, 2) := by decide +kernel
theorem d_A_numberAt_7 : decode b_A_numberAt 7 = .ok (.if_icmp .ge 15, 3) := by decide +kernel
theorem d_A_numberAt_10 : decode b_A_numberAt 10 = .ok (.aload_n 0, 1) := by decide +kernel
theorem d_A_numberAt_11 : decode b_A_numberAt 11 = .ok (.getfield 9, 3) := by decide +kernel
theorem d_A_numberAt_14 : decode b_A_numberAt 14 = .ok (.iload_n 1, 1) := by decide +kernel
theorem d_A_numberAt_15 : decode b_A_numberAt 15 = .ok (.laload, 1) := by decide +kernel
theorem d_A_numberAt_16 : decode b_A_numberAt 16 = .ok (.invokestatic 48, 3) := by decide +kernel
theorem d_A_numberAt_19 : decode b_A_numberAt 19 = .ok (.goto 4, 3) := by decide +kernel
theorem d_A_numberAt_22 : decode b_A_numberAt 22 = .ok (.iconst 0, 1) := by decide +kernel
theorem d_A_numberAt_23 : decode b_A_numberAt 23 = .ok (.ireturn, 1) := by decide +kernel
theorem d_A_rankOf_0 : decode b_A_rankOf 0 = .ok (.iload_n 1, 1) := by decide +kernel
theorem d_A_rankOf_1 : decode b_A_rankOf 1 = .ok (.bipush 40, 2) := by decide +kernel
theorem d_A_rankOf_3 : decode b_A_rankOf 3 = .ok (.iadd, 1) := by decide +kernel
theorem d_A_rankOf_4 : decode b_A_rankOf 4 = .ok (.istore_n 2, 1) := by decide +kernel
theorem d_A_rankOf_5 : decode b_A_rankOf 5 = .ok (.iload_n 2, 1) := by decide +kernel
theorem d_A_rankOf_6 : decode b_A_rankOf 6 = .ok (.ifCond .lt 18, 3) := by decide +kernel
theorem d_A_rankOf_9 : decode b_A_rankOf 9 = .ok (.iload_n 2, 1) := by decide +kernel
theorem d_A_rankOf_10 : decode b_A_rankOf 10 = .ok (.bipush 81, 2) := by decide +kernel
theorem d_A_rankOf_12 : decode b_A_rankOf 12 = .ok (.if_icmp .ge 12, 3) := by decide +kernel
theorem d_A_rankOf_15 : decode b_A_rankOf 15 = .ok (.aload_n 0, 1) := by decide +kernel
theorem d_A_rankOf_16 : decode b_A_rankOf 16 = .ok (.getfield 15, 3) := by decide +kernel
theorem d_A_rankOf_19 : decode b_A_rankOf 19 = .ok (.iload_n 2, 1) := by decide +kernel
theorem d_A_rankOf_20 : decode b_A_rankOf 20 = .ok (.iaload, 1) := by decide +kernel
theorem d_A_rankOf_21 : decode b_A_rankOf 21 = .ok (.goto 5, 3) := by decide +kernel
theorem d_A_rankOf_24 : decode b_A_rankOf 24 = .ok (.bipush 81, 2) := by decide +kernel
theorem d_A_rankOf_26 : decode b_A_rankOf 26 = .ok (.ireturn, 1) := by decide +kernel
theorem d_F_init_0 : decode b_F_init 0 = .ok (.aload_n 0, 1) := by decide +kernel
theorem d_F_init_1 : decode b_F_init 1 = .ok (.invokespecial 3, 3) := by decide +kernel
theorem d_F_init_4 : decode b_F_init 4 = .ok (.aload_n 0, 1) := by decide +kernel
theorem d_F_init_5 : decode b_F_init 5 = .ok (.sipush 1001, 3) := by decide +kernel
theorem d_F_init_8 : decode b_F_init 8 = .ok (.newarray .long, 2) := by decide +kernel
theorem d_F_init_10 : decode b_F_init 10 = .ok (.putfield 9, 3) := by decide +kernel
theorem d_F_init_13 : decode b_F_init 13 = .ok (.return_, 1) := by decide +kernel
theorem d_F_clear_0 : decode b_F_clear 0 = .ok (.aload_n 0, 1) := by decide +kernel
theorem d_F_clear_1 : decode b_F_clear 1 = .ok (.iconst 0, 1) := by decide +kernel
theorem d_F_clear_2 : decode b_F_clear 2 = .ok (.putfield 15, 3) := by decide +kernel
theorem d_F_clear_5 : decode b_F_clear 5 = .ok (.return_, 1) := by decide +kernel
theorem d_F_add_0 : decode b_F_add 0 = .ok (.aload_n 0, 1) := by decide +kernel
theorem d_F_add_1 : decode b_F_add 1 = .ok (.getfield 15, 3) := by decide +kernel
theorem d_F_add_4 : decode b_F_add 4 = .ok (.aload_n 0, 1) := by decide +kernel
theorem d_F_add_5 : decode b_F_add 5 = .ok (.getfield 9, 3) := by decide +kernel
theorem d_F_add_8 : decode b_F_add 8 = .ok (.arraylength, 1) := by decide +kernel
theorem d_F_add_9 : decode b_F_add 9 = .ok (.if_icmp .lt 4, 3) := by decide +kernel
theorem d_F_add_12 : decode b_F_add 12 = .ok (.return_, 1) := by decide +kernel
theorem d_F_add_13 : decode b_F_add 13 = .ok (.aload_n 0, 1) := by decide +kernel
theorem d_F_add_14 : decode b_F_add 14 = .ok (.getfield 15, 3) := by decide +kernel
theorem d_F_add_17 : decode b_F_add 17 = .ok (.istore_n 3, 1) := by decide +kernel
theorem d_F_add_18 : decode b_F_add 18 = .ok (.aload_n 0, 1) := by decide +kernel
theorem d_F_add_19 : decode b_F_add 19 = .ok (.dup, 1) := by decide +kernel
theorem d_F_add_20 : decode b_F_add 20 = .ok (.getfield 15, 3) := by decide +kernel
theorem d_F_add_23 : decode b_F_add 23 = .ok (.iconst 1, 1) := by decide +kernel
theorem d_F_add_24 : decode b_F_add 24 = .ok (.iadd, 1) := by decide +kernel
theorem d_F_add_25 : decode b_F_add 25 = .ok (.putfield 15, 3) := by decide +kernel
theorem d_F_add_28 : decode b_F_add 28 = .ok (.iload_n 3, 1) := by decide +kernel
theorem d_F_add_29 : decode b_F_add 29 = .ok (.ifCond .le 43, 3) := by decide +kernel
theorem d_F_add_32 : decode b_F_add 32 = .ok (.aload_n 0, 1) := by decide +kernel
theorem d_F_add_33 : decode b_F_add 33 = .ok (.getfield 9, 3) := by decide +kernel
theorem d_F_add_36 : decode b_F_add 36 = .ok (.iload_n 3, 1) := by decide +kernel
theorem d_F_add_37 : decode b_F_add 37 = .ok (.iconst 1, 1) := by decide +kernel
theorem d_F_add_38 : decode b_F_add 38 = .ok (.isub, 1) := by decide +kernel
theorem d_F_add_39 : decode b_F_add 39 = .ok (.iconst 2, 1) := by decide +kernel
theorem d_F_add_40 : decode b_F_add 40 = .ok (.idiv, 1) := by decide +kernel
theorem d_F_add_41 : decode b_F_add 41 = .ok (.laload, 1) := by decide +kernel
theorem d_F_add_42 : decode b_F_add 42 = .ok (.lload_n 1, 1) := by decide +kernel
theorem d_F_add_43 : decode b_F_add 43 = .ok (.lcmp, 1) := by decide +kernel
theorem d_F_add_44 : decode b_F_add 44 = .ok (.ifCond .le 28, 3) := by decide +kernel
theorem d_F_add_47 : decode b_F_add 47 = .ok (.aload_n 0, 1) := by decide +kernel
theorem d_F_add_48 : decode b_F_add 48 = .ok (.getfield 9, 3) := by decide +kernel
theorem d_F_add_51 : decode b_F_add 51 = .ok (.iload_n 3, 1) := by decide +kernel
theorem d_F_add_52 : decode b_F_add 52 = .ok (.aload_n 0, 1) := by decide +kernel
theorem d_F_add_53 : decode b_F_add 53 = .ok (.getfield 9, 3) := by decide +kernel
theorem d_F_add_56 : decode b_F_add 56 = .ok (.iload_n 3, 1) := by decide +kernel
theorem d_F_add_57 : decode b_F_add 57 = .ok (.iconst 1, 1) := by decide +kernel
theorem d_F_add_58 : decode b_F_add 58 = .ok (.isub, 1) := by decide +kernel
theorem d_F_add_59 : decode b_F_add 59 = .ok (.iconst 2, 1) := by decide +kernel
theorem d_F_add_60 : decode b_F_add 60 = .ok (.idiv, 1) := by decide +kernel
theorem d_F_add_61 : decode b_F_add 61 = .ok (.laload, 1) := by decide +kernel
theorem d_F_add_62 : decode b_F_add 62 = .ok (.lastore, 1) := by decide +kernel
theorem d_F_add_63 : decode b_F_add 63 = .ok (.iload_n 3, 1) := by decide +kernel
theorem d_F_add_64 : decode b_F_add 64 = .ok (.iconst 1, 1) := by decide +kernel
theorem d_F_add_65 : decode b_F_add 65 = .ok (.isub, 1) := by decide +kernel
theorem d_F_add_66 : decode b_F_add 66 = .ok (.iconst 2, 1) := by decide +kernel
theorem d_F_add_67 : decode b_F_add 67 = .ok (.idiv, 1) := by decide +kernel
theorem d_F_add_68 : decode b_F_add 68 = .ok (.istore_n 3, 1) := by decide +kernel
theorem d_F_add_69 : decode b_F_add 69 = .ok (.goto (-41), 3) := by decide +kernel
theorem d_F_add_72 : decode b_F_add 72 = .ok (.aload_n 0, 1) := by decide +kernel
theorem d_F_add_73 : decode b_F_add 73 = .ok (.getfield 9, 3) := by decide +kernel
theorem d_F_add_76 : decode b_F_add 76 = .ok (.iload_n 3, 1) := by decide +kernel
theorem d_F_add_77 : decode b_F_add 77 = .ok (.lload_n 1, 1) := by decide +kernel
theorem d_F_add_78 : decode b_F_add 78 = .ok (.lastore, 1) := by decide +kernel
theorem d_F_add_79 : decode b_F_add 79 = .ok (.return_, 1) := by decide +kernel
theorem d_F_takeLeast_0 : decode b_F_takeLeast 0 = .ok (.aload_n 0, 1) := by decide +kernel
theorem d_F_takeLeast_1 : decode b_F_takeLeast 1 = .ok (.getfield 15, 3) := by decide +kernel
theorem d_F_takeLeast_4 : decode b_F_takeLeast 4 = .ok (.iconst 1, 1) := by decide +kernel
theorem d_F_takeLeast_5 : decode b_F_takeLeast 5 = .ok (.if_icmp .ge 5, 3) := by decide +kernel
theorem d_F_takeLeast_8 : decode b_F_takeLeast 8 = .ok (.lconst 0, 1) := by decide +kernel
theorem d_F_takeLeast_9 : decode b_F_takeLeast 9 = .ok (.lreturn, 1) := by decide +kernel
theorem d_F_takeLeast_10 : decode b_F_takeLeast 10 = .ok (.aload_n 0, 1) := by decide +kernel
theorem d_F_takeLeast_11 : decode b_F_takeLeast 11 = .ok (.getfield 9, 3) := by decide +kernel
theorem d_F_takeLeast_14 : decode b_F_takeLeast 14 = .ok (.iconst 0, 1) := by decide +kernel
theorem d_F_takeLeast_15 : decode b_F_takeLeast 15 = .ok (.laload, 1) := by decide +kernel
theorem d_F_takeLeast_16 : decode b_F_takeLeast 16 = .ok (.lstore_n 1, 1) := by decide +kernel
theorem d_F_takeLeast_17 : decode b_F_takeLeast 17 = .ok (.aload_n 0, 1) := by decide +kernel
theorem d_F_takeLeast_18 : decode b_F_takeLeast 18 = .ok (.dup, 1) := by decide +kernel
theorem d_F_takeLeast_19 : decode b_F_takeLeast 19 = .ok (.getfield 15, 3) := by decide +kernel
theorem d_F_takeLeast_22 : decode b_F_takeLeast 22 = .ok (.iconst 1, 1) := by decide +kernel
theorem d_F_takeLeast_23 : decode b_F_takeLeast 23 = .ok (.isub, 1) := by decide +kernel
theorem d_F_takeLeast_24 : decode b_F_takeLeast 24 = .ok (.putfield 15, 3) := by decide +kernel
theorem d_F_takeLeast_27 : decode b_F_takeLeast 27 = .ok (.aload_n 0, 1) := by decide +kernel
theorem d_F_takeLeast_28 : decode b_F_takeLeast 28 = .ok (.aload_n 0, 1) := by decide +kernel
theorem d_F_takeLeast_29 : decode b_F_takeLeast 29 = .ok (.getfield 9, 3) := by decide +kernel
theorem d_F_takeLeast_32 : decode b_F_takeLeast 32 = .ok (.aload_n 0, 1) := by decide +kernel
theorem d_F_takeLeast_33 : decode b_F_takeLeast 33 = .ok (.getfield 15, 3) := by decide +kernel
theorem d_F_takeLeast_36 : decode b_F_takeLeast 36 = .ok (.laload, 1) := by decide +kernel
theorem d_F_takeLeast_37 : decode b_F_takeLeast 37 = .ok (.invokevirtual 19, 3) := by decide +kernel
theorem d_F_takeLeast_40 : decode b_F_takeLeast 40 = .ok (.lload_n 1, 1) := by decide +kernel
theorem d_F_takeLeast_41 : decode b_F_takeLeast 41 = .ok (.lreturn, 1) := by decide +kernel
theorem d_F_sinkFromTop_0 : decode b_F_sinkFromTop 0 = .ok (.iconst 0, 1) := by decide +kernel
theorem d_F_sinkFromTop_1 : decode b_F_sinkFromTop 1 = .ok (.istore_n 3, 1) := by decide +kernel
theorem d_F_sinkFromTop_2 : decode b_F_sinkFromTop 2 = .ok (.iconst 2, 1) := by decide +kernel
theorem d_F_sinkFromTop_3 : decode b_F_sinkFromTop 3 = .ok (.iload_n 3, 1) := by decide +kernel
theorem d_F_sinkFromTop_4 : decode b_F_sinkFromTop 4 = .ok (.imul, 1) := by decide +kernel
theorem d_F_sinkFromTop_5 : decode b_F_sinkFromTop 5 = .ok (.iconst 1, 1) := by decide +kernel
theorem d_F_sinkFromTop_6 : decode b_F_sinkFromTop 6 = .ok (.iadd, 1) := by decide +kernel
theorem d_F_sinkFromTop_7 : decode b_F_sinkFromTop 7 = .ok (.aload_n 0, 1) := by decide +kernel
theorem d_F_sinkFromTop_8 : decode b_F_sinkFromTop 8 = .ok (.getfield 15, 3) := by decide +kernel
theorem d_F_sinkFromTop_11 : decode b_F_sinkFromTop 11 = .ok (.if_icmp .ge 48, 3) := by decide +kernel
theorem d_F_sinkFromTop_14 : decode b_F_sinkFromTop 14 = .ok (.aload_n 0, 1) := by decide +kernel
theorem d_F_sinkFromTop_15 : decode b_F_sinkFromTop 15 = .ok (.iconst 2, 1) := by decide +kernel
theorem d_F_sinkFromTop_16 : decode b_F_sinkFromTop 16 = .ok (.iload_n 3, 1) := by decide +kernel
theorem d_F_sinkFromTop_17 : decode b_F_sinkFromTop 17 = .ok (.imul, 1) := by decide +kernel
theorem d_F_sinkFromTop_18 : decode b_F_sinkFromTop 18 = .ok (.iconst 1, 1) := by decide +kernel
theorem d_F_sinkFromTop_19 : decode b_F_sinkFromTop 19 = .ok (.iadd, 1) := by decide +kernel
theorem d_F_sinkFromTop_20 : decode b_F_sinkFromTop 20 = .ok (.invokevirtual 23, 3) := by decide +kernel
theorem d_F_sinkFromTop_23 : decode b_F_sinkFromTop 23 = .ok (.istore 4, 2) := by decide +kernel
theorem d_F_sinkFromTop_25 : decode b_F_sinkFromTop 25 = .ok (.aload_n 0, 1) := by decide +kernel
theorem d_F_sinkFromTop_26 : decode b_F_sinkFromTop 26 = .ok (.getfield 9, 3) := by decide +kernel
theorem d_F_sinkFromTop_29 : decode b_F_sinkFromTop 29 = .ok (.iload 4, 2) := by decide +kernel
theorem d_F_sinkFromTop_31 : decode b_F_sinkFromTop 31 = .ok (.laload, 1) := by decide +kernel
theorem d_F_sinkFromTop_32 : decode b_F_sinkFromTop 32 = .ok (.lload_n 1, 1) := by decide +kernel
theorem d_F_sinkFromTop_33 : decode b_F_sinkFromTop 33 = .ok (.lcmp, 1) := by decide +kernel
theorem d_F_sinkFromTop_34 : decode b_F_sinkFromTop 34 = .ok (.ifCond .lt 6, 3) := by decide +kernel
theorem d_F_sinkFromTop_37 : decode b_F_sinkFromTop 37 = .ok (.goto 22, 3) := by decide +kernel
theorem d_F_sinkFromTop_40 : decode b_F_sinkFromTop 40 = .ok (.aload_n 0, 1) := by decide +kernel
theorem d_F_sinkFromTop_41 : decode b_F_sinkFromTop 41 = .ok (.getfield 9, 3) := by decide +kernel
theorem d_F_sinkFromTop_44 : decode b_F_sinkFromTop 44 = .ok (.iload_n 3, 1) := by decide +kernel
theorem d_F_sinkFromTop_45 : decode b_F_sinkFromTop 45 = .ok (.aload_n 0, 1) := by decide +kernel
theorem d_F_sinkFromTop_46 : decode b_F_sinkFromTop 46 = .ok (.getfield 9, 3) := by decide +kernel
theorem d_F_sinkFromTop_49 : decode b_F_sinkFromTop 49 = .ok (.iload 4, 2) := by decide +kernel
theorem d_F_sinkFromTop_51 : decode b_F_sinkFromTop 51 = .ok (.laload, 1) := by decide +kernel
theorem d_F_sinkFromTop_52 : decode b_F_sinkFromTop 52 = .ok (.lastore, 1) := by decide +kernel
theorem d_F_sinkFromTop_53 : decode b_F_sinkFromTop 53 = .ok (.iload 4, 2) := by decide +kernel
theorem d_F_sinkFromTop_55 : decode b_F_sinkFromTop 55 = .ok (.istore_n 3, 1) := by decide +kernel
theorem d_F_sinkFromTop_56 : decode b_F_sinkFromTop 56 = .ok (.goto (-54), 3) := by decide +kernel
theorem d_F_sinkFromTop_59 : decode b_F_sinkFromTop 59 = .ok (.aload_n 0, 1) := by decide +kernel
theorem d_F_sinkFromTop_60 : decode b_F_sinkFromTop 60 = .ok (.getfield 9, 3) := by decide +kernel
theorem d_F_sinkFromTop_63 : decode b_F_sinkFromTop 63 = .ok (.iload_n 3, 1) := by decide +kernel
theorem d_F_sinkFromTop_64 : decode b_F_sinkFromTop 64 = .ok (.lload_n 1, 1) := by decide +kernel
theorem d_F_sinkFromTop_65 : decode b_F_sinkFromTop 65 = .ok (.lastore, 1) := by decide +kernel
theorem d_F_sinkFromTop_66 : decode b_F_sinkFromTop 66 = .ok (.return_, 1) := by decide +kernel
end
section
theorem d_F_lesserOf_0 : decode b_F_lesserOf 0 = .ok (.iload_n 1, 1) := by decide +kernel
theorem d_F_lesserOf_1 : decode b_F_lesserOf 1 = .ok (.iconst 1, 1) := by decide +kernel
theorem d_F_lesserOf_2 : decode b_F_lesserOf 2 = .ok (.iadd, 1) := by decide +kernel
theorem d_F_lesserOf_3 : decode b_F_lesserOf 3 = .ok (.istore_n 2, 1) := by decide +kernel
theorem d_F_lesserOf_4 : decode b_F_lesserOf 4 = .ok (.iload_n 2, 1) := by decide +kernel
theorem d_F_lesserOf_5 : decode b_F_lesserOf 5 = .ok (.aload_n 0, 1) := by decide +kernel
theorem d_F_lesserOf_6 : decode b_F_lesserOf 6 = .ok (.getfield 15, 3) := by decide +kernel
theorem d_F_lesserOf_9 : decode b_F_lesserOf 9 = .ok (.if_icmp .ge 23, 3) := by decide +kernel
theorem d_F_lesserOf_12 : decode b_F_lesserOf 12 = .ok (.aload_n 0, 1) := by decide +kernel
theorem d_F_lesserOf_13 : decode b_F_lesserOf 13 = .ok (.getfield 9, 3) := by decide +kernel
theorem d_F_lesserOf_16 : decode b_F_lesserOf 16 = .ok (.iload_n 2, 1) := by decide +kernel
theorem d_F_lesserOf_17 : decode b_F_lesserOf 17 = .ok (.laload, 1) := by decide +kernel
theorem d_F_lesserOf_18 : decode b_F_lesserOf 18 = .ok (.aload_n 0, 1) := by decide +kernel
theorem d_F_lesserOf_19 : decode b_F_lesserOf 19 = .ok (.getfield 9, 3) := by decide +kernel
theorem d_F_lesserOf_22 : decode b_F_lesserOf 22 = .ok (.iload_n 1, 1) := by decide +kernel
theorem d_F_lesserOf_23 : decode b_F_lesserOf 23 = .ok (.laload, 1) := by decide +kernel
theorem d_F_lesserOf_24 : decode b_F_lesserOf 24 = .ok (.lcmp, 1) := by decide +kernel
theorem d_F_lesserOf_25 : decode b_F_lesserOf 25 = .ok (.ifCond .ge 7, 3) := by decide +kernel
theorem d_F_lesserOf_28 : decode b_F_lesserOf 28 = .ok (.iload_n 2, 1) := by decide +kernel
theorem d_F_lesserOf_29 : decode b_F_lesserOf 29 = .ok (.goto 4, 3) := by decide +kernel
theorem d_F_lesserOf_32 : decode b_F_lesserOf 32 = .ok (.iload_n 1, 1) := by decide +kernel
theorem d_F_lesserOf_33 : decode b_F_lesserOf 33 = .ok (.ireturn, 1) := by decide +kernel
end
section
theorem d_L_cell_0 : decode b_L_cell 0 = .ok (.iload_n 1, 1) := by decide +kernel
theorem d_L_cell_1 : decode b_L_cell 1 = .ok (.aload_n 0, 1) := by decide +kernel
theorem d_L_cell_2 : decode b_L_cell 2 = .ok (.arraylength, 1) := by decide +kernel
theorem d_L_cell_3 : decode b_L_cell 3 = .ok (.if_icmp .ge 9, 3) := by decide +kernel
theorem d_L_cell_6 : decode b_L_cell 6 = .ok (.aload_n 0, 1) := by decide +kernel
theorem d_L_cell_7 : decode b_L_cell 7 = .ok (.iload_n 1, 1) := by decide +kernel
theorem d_L_cell_8 : decode b_L_cell 8 = .ok (.iaload, 1) := by decide +kernel
theorem d_L_cell_9 : decode b_L_cell 9 = .ok (.goto 4, 3) := by decide +kernel
theorem d_L_cell_12 : decode b_L_cell 12 = .ok (.iconst 0, 1) := by decide +kernel
theorem d_L_cell_13 : decode b_L_cell 13 = .ok (.ireturn, 1) := by decide +kernel
theorem d_L_source_0 : decode b_L_source 0 = .ok (.aload_n 0, 1) := by decide +kernel
theorem d_L_source_1 : decode b_L_source 1 = .ok (.iload_n 1, 1) := by decide +kernel
theorem d_L_source_2 : decode b_L_source 2 = .ok (.iload_n 2, 1) := by decide +kernel
theorem d_L_source_3 : decode b_L_source 3 = .ok (.iload_n 3, 1) := by decide +kernel
theorem d_L_source_4 : decode b_L_source 4 = .ok (.invokevirtual 7, 3) := by decide +kernel
theorem d_L_source_7 : decode b_L_source 7 = .ok (.goto 7, 3) := by decide +kernel
theorem d_L_source_10 : decode b_L_source 10 = .ok (.astore 4, 2) := by decide +kernel
theorem d_L_source_12 : decode b_L_source 12 = .ok (.iconst 1, 1) := by decide +kernel
theorem d_L_source_13 : decode b_L_source 13 = .ok (.ireturn, 1) := by decide +kernel
theorem d_L_source_14 : decode b_L_source 14 = .ok (.iconst 0, 1) := by decide +kernel
theorem d_L_source_15 : decode b_L_source 15 = .ok (.ireturn, 1) := by decide +kernel
theorem d_L_listener_0 : decode b_L_listener 0 = .ok (.aload_n 0, 1) := by decide +kernel
theorem d_L_listener_1 : decode b_L_listener 1 = .ok (.iload_n 1, 1) := by decide +kernel
theorem d_L_listener_2 : decode b_L_listener 2 = .ok (.iload_n 2, 1) := by decide +kernel
theorem d_L_listener_3 : decode b_L_listener 3 = .ok (.iload_n 3, 1) := by decide +kernel
theorem d_L_listener_4 : decode b_L_listener 4 = .ok (.invokevirtual 15, 3) := by decide +kernel
theorem d_L_listener_7 : decode b_L_listener 7 = .ok (.goto 7, 3) := by decide +kernel
theorem d_L_listener_10 : decode b_L_listener 10 = .ok (.astore 4, 2) := by decide +kernel
theorem d_L_listener_12 : decode b_L_listener 12 = .ok (.iconst 1, 1) := by decide +kernel
theorem d_L_listener_13 : decode b_L_listener 13 = .ok (.ireturn, 1) := by decide +kernel
theorem d_L_listener_14 : decode b_L_listener 14 = .ok (.iconst 0, 1) := by decide +kernel
theorem d_L_listener_15 : decode b_L_listener 15 = .ok (.ireturn, 1) := by decide +kernel
theorem d_L_keeps_0 : decode b_L_keeps 0 = .ok (.aload_n 3, 1) := by decide +kernel
theorem d_L_keeps_1 : decode b_L_keeps 1 = .ok (.iconst 0, 1) := by decide +kernel
theorem d_L_keeps_2 : decode b_L_keeps 2 = .ok (.aload_n 0, 1) := by decide +kernel
theorem d_L_keeps_3 : decode b_L_keeps 3 = .ok (.iload_n 1, 1) := by decide +kernel
theorem d_L_keeps_4 : decode b_L_keeps 4 = .ok (.iload_n 2, 1) := by decide +kernel
theorem d_L_keeps_5 : decode b_L_keeps 5 = .ok (.invokevirtual 18, 3) := by decide +kernel
theorem d_L_keeps_8 : decode b_L_keeps 8 = .ok (.i2l, 1) := by decide +kernel
theorem d_L_keeps_9 : decode b_L_keeps 9 = .ok (.lastore, 1) := by decide +kernel
theorem d_L_keeps_10 : decode b_L_keeps 10 = .ok (.goto 7, 3) := by decide +kernel
theorem d_L_keeps_13 : decode b_L_keeps 13 = .ok (.astore 4, 2) := by decide +kernel
theorem d_L_keeps_15 : decode b_L_keeps 15 = .ok (.iconst 1, 1) := by decide +kernel
theorem d_L_keeps_16 : decode b_L_keeps 16 = .ok (.ireturn, 1) := by decide +kernel
theorem d_L_keeps_17 : decode b_L_keeps 17 = .ok (.iconst 0, 1) := by decide +kernel
theorem d_L_keeps_18 : decode b_L_keeps 18 = .ok (.ireturn, 1) := by decide +kernel
theorem d_L_image_0 : decode b_L_image 0 = .ok (.aload 5, 2) := by decide +kernel
theorem d_L_image_2 : decode b_L_image 2 = .ok (.iconst 0, 1) := by decide +kernel
theorem d_L_image_3 : decode b_L_image 3 = .ok (.aload_n 0, 1) := by decide +kernel
theorem d_L_image_4 : decode b_L_image 4 = .ok (.iload_n 1, 1) := by decide +kernel
theorem d_L_image_5 : decode b_L_image 5 = .ok (.iload_n 2, 1) := by decide +kernel
theorem d_L_image_6 : decode b_L_image 6 = .ok (.iload_n 3, 1) := by decide +kernel
theorem d_L_image_7 : decode b_L_image 7 = .ok (.iload 4, 2) := by decide +kernel
theorem d_L_image_9 : decode b_L_image 9 = .ok (.invokevirtual 22, 3) := by decide +kernel
theorem d_L_image_12 : decode b_L_image 12 = .ok (.lastore, 1) := by decide +kernel
theorem d_L_image_13 : decode b_L_image 13 = .ok (.goto 7, 3) := by decide +kernel
theorem d_L_image_16 : decode b_L_image 16 = .ok (.astore 6, 2) := by decide +kernel
theorem d_L_image_18 : decode b_L_image 18 = .ok (.iconst 1, 1) := by decide +kernel
theorem d_L_image_19 : decode b_L_image 19 = .ok (.ireturn, 1) := by decide +kernel
theorem d_L_image_20 : decode b_L_image 20 = .ok (.iconst 0, 1) := by decide +kernel
theorem d_L_image_21 : decode b_L_image 21 = .ok (.ireturn, 1) := by decide +kernel
theorem d_L_echo_0 : decode b_L_echo 0 = .ok (.aload_n 3, 1) := by decide +kernel
theorem d_L_echo_1 : decode b_L_echo 1 = .ok (.iconst 0, 1) := by decide +kernel
theorem d_L_echo_2 : decode b_L_echo 2 = .ok (.aload_n 0, 1) := by decide +kernel
theorem d_L_echo_3 : decode b_L_echo 3 = .ok (.iload_n 1, 1) := by decide +kernel
theorem d_L_echo_4 : decode b_L_echo 4 = .ok (.iload_n 2, 1) := by decide +kernel
theorem d_L_echo_5 : decode b_L_echo 5 = .ok (.invokevirtual 26, 3) := by decide +kernel
theorem d_L_echo_8 : decode b_L_echo 8 = .ok (.lastore, 1) := by decide +kernel
theorem d_L_echo_9 : decode b_L_echo 9 = .ok (.goto 7, 3) := by decide +kernel
theorem d_L_echo_12 : decode b_L_echo 12 = .ok (.astore 4, 2) := by decide +kernel
theorem d_L_echo_14 : decode b_L_echo 14 = .ok (.iconst 1, 1) := by decide +kernel
theorem d_L_echo_15 : decode b_L_echo 15 = .ok (.ireturn, 1) := by decide +kernel
theorem d_L_echo_16 : decode b_L_echo 16 = .ok (.iconst 0, 1) := by decide +kernel
theorem d_L_echo_17 : decode b_L_echo 17 = .ok (.ireturn, 1) := by decide +kernel
theorem d_L_place_0 : decode b_L_place 0 = .ok (.aload 4, 2) := by decide +kernel
theorem d_L_place_2 : decode b_L_place 2 = .ok (.iconst 0, 1) := by decide +kernel
theorem d_L_place_3 : decode b_L_place 3 = .ok (.aload_n 0, 1) := by decide +kernel
theorem d_L_place_4 : decode b_L_place 4 = .ok (.iload_n 1, 1) := by decide +kernel
theorem d_L_place_5 : decode b_L_place 5 = .ok (.iload_n 2, 1) := by decide +kernel
theorem d_L_place_6 : decode b_L_place 6 = .ok (.iload_n 3, 1) := by decide +kernel
theorem d_L_place_7 : decode b_L_place 7 = .ok (.invokevirtual 30, 3) := by decide +kernel
theorem d_L_place_10 : decode b_L_place 10 = .ok (.i2l, 1) := by decide +kernel
theorem d_L_place_11 : decode b_L_place 11 = .ok (.lastore, 1) := by decide +kernel
theorem d_L_place_12 : decode b_L_place 12 = .ok (.goto 7, 3) := by decide +kernel
theorem d_L_place_15 : decode b_L_place 15 = .ok (.astore 5, 2) := by decide +kernel
theorem d_L_place_17 : decode b_L_place 17 = .ok (.iconst 1, 1) := by decide +kernel
theorem d_L_place_18 : decode b_L_place 18 = .ok (.ireturn, 1) := by decide +kernel
theorem d_L_place_19 : decode b_L_place 19 = .ok (.iconst 0, 1) := by decide +kernel
theorem d_L_place_20 : decode b_L_place 20 = .ok (.ireturn, 1) := by decide +kernel
theorem d_L_until_0 : decode b_L_until 0 = .ok (.aload_n 3, 1) := by decide +kernel
theorem d_L_until_1 : decode b_L_until 1 = .ok (.iconst 0, 1) := by decide +kernel
theorem d_L_until_2 : decode b_L_until 2 = .ok (.aload_n 0, 1) := by decide +kernel
theorem d_L_until_3 : decode b_L_until 3 = .ok (.lload_n 1, 1) := by decide +kernel
theorem d_L_until_4 : decode b_L_until 4 = .ok (.invokevirtual 34, 3) := by decide +kernel
theorem d_L_until_7 : decode b_L_until 7 = .ok (.i2l, 1) := by decide +kernel
theorem d_L_until_8 : decode b_L_until 8 = .ok (.lastore, 1) := by decide +kernel
theorem d_L_until_9 : decode b_L_until 9 = .ok (.goto 7, 3) := by decide +kernel
theorem d_L_until_12 : decode b_L_until 12 = .ok (.astore 4, 2) := by decide +kernel
theorem d_L_until_14 : decode b_L_until 14 = .ok (.iconst 1, 1) := by decide +kernel
theorem d_L_until_15 : decode b_L_until 15 = .ok (.ireturn, 1) := by decide +kernel
theorem d_L_until_16 : decode b_L_until 16 = .ok (.iconst 0, 1) := by decide +kernel
theorem d_L_until_17 : decode b_L_until 17 = .ok (.ireturn, 1) := by decide +kernel
theorem d_L_loud_0 : decode b_L_loud 0 = .ok (.aload_n 3, 1) := by decide +kernel
theorem d_L_loud_1 : decode b_L_loud 1 = .ok (.iconst 0, 1) := by decide +kernel
theorem d_L_loud_2 : decode b_L_loud 2 = .ok (.aload_n 0, 1) := by decide +kernel
theorem d_L_loud_3 : decode b_L_loud 3 = .ok (.iload_n 1, 1) := by decide +kernel
theorem d_L_loud_4 : decode b_L_loud 4 = .ok (.iload_n 2, 1) := by decide +kernel
theorem d_L_loud_5 : decode b_L_loud 5 = .ok (.invokevirtual 38, 3) := by decide +kernel
theorem d_L_loud_8 : decode b_L_loud 8 = .ok (.lastore, 1) := by decide +kernel
theorem d_L_loud_9 : decode b_L_loud 9 = .ok (.goto 7, 3) := by decide +kernel
theorem d_L_loud_12 : decode b_L_loud 12 = .ok (.astore 4, 2) := by decide +kernel
theorem d_L_loud_14 : decode b_L_loud 14 = .ok (.iconst 1, 1) := by decide +kernel
theorem d_L_loud_15 : decode b_L_loud 15 = .ok (.ireturn, 1) := by decide +kernel
theorem d_L_loud_16 : decode b_L_loud 16 = .ok (.iconst 0, 1) := by decide +kernel
theorem d_L_loud_17 : decode b_L_loud 17 = .ok (.ireturn, 1) := by decide +kernel
theorem d_L_early_0 : decode b_L_early 0 = .ok (.aload 4, 2) := by decide +kernel
theorem d_L_early_2 : decode b_L_early 2 = .ok (.iconst 0, 1) := by decide +kernel
theorem d_L_early_3 : decode b_L_early 3 = .ok (.aload_n 0, 1) := by decide +kernel
theorem d_L_early_4 : decode b_L_early 4 = .ok (.lload_n 1, 1) := by decide +kernel
theorem d_L_early_5 : decode b_L_early 5 = .ok (.iload_n 3, 1) := by decide +kernel
theorem d_L_early_6 : decode b_L_early 6 = .ok (.invokevirtual 41, 3) := by decide +kernel
theorem d_L_early_9 : decode b_L_early 9 = .ok (.lastore, 1) := by decide +kernel
theorem d_L_early_10 : decode b_L_early 10 = .ok (.goto 7, 3) := by decide +kernel
theorem d_L_early_13 : decode b_L_early 13 = .ok (.astore 5, 2) := by decide +kernel
theorem d_L_early_15 : decode b_L_early 15 = .ok (.iconst 1, 1) := by decide +kernel
theorem d_L_early_16 : decode b_L_early 16 = .ok (.ireturn, 1) := by decide +kernel
theorem d_L_early_17 : decode b_L_early 17 = .ok (.iconst 0, 1) := by decide +kernel
theorem d_L_early_18 : decode b_L_early 18 = .ok (.ireturn, 1) := by decide +kernel
theorem d_L_enough_0 : decode b_L_enough 0 = .ok (.aload_n 2, 1) := by decide +kernel
theorem d_L_enough_1 : decode b_L_enough 1 = .ok (.iconst 0, 1) := by decide +kernel
theorem d_L_enough_2 : decode b_L_enough 2 = .ok (.aload_n 0, 1) := by decide +kernel
theorem d_L_enough_3 : decode b_L_enough 3 = .ok (.iload_n 1, 1) := by decide +kernel
theorem d_L_enough_4 : decode b_L_enough 4 = .ok (.invokevirtual 45, 3) := by decide +kernel
theorem d_L_enough_7 : decode b_L_enough 7 = .ok (.i2l, 1) := by decide +kernel
theorem d_L_enough_8 : decode b_L_enough 8 = .ok (.lastore, 1) := by decide +kernel
theorem d_L_enough_9 : decode b_L_enough 9 = .ok (.goto 6, 3) := by decide +kernel
theorem d_L_enough_12 : decode b_L_enough 12 = .ok (.astore_n 3, 1) := by decide +kernel
theorem d_L_enough_13 : decode b_L_enough 13 = .ok (.iconst 1, 1) := by decide +kernel
theorem d_L_enough_14 : decode b_L_enough 14 = .ok (.ireturn, 1) := by decide +kernel
theorem d_L_enough_15 : decode b_L_enough 15 = .ok (.iconst 0, 1) := by decide +kernel
theorem d_L_enough_16 : decode b_L_enough 16 = .ok (.ireturn, 1) := by decide +kernel
theorem d_L_loudest_0 : decode b_L_loudest 0 = .ok (.aload_n 2, 1) := by decide +kernel
theorem d_L_loudest_1 : decode b_L_loudest 1 = .ok (.iconst 0, 1) := by decide +kernel
theorem d_L_loudest_2 : decode b_L_loudest 2 = .ok (.aload_n 0, 1) := by decide +kernel
theorem d_L_loudest_3 : decode b_L_loudest 3 = .ok (.iload_n 1, 1) := by decide +kernel
theorem d_L_loudest_4 : decode b_L_loudest 4 = .ok (.invokevirtual 49, 3) := by decide +kernel
theorem d_L_loudest_7 : decode b_L_loudest 7 = .ok (.i2l, 1) := by decide +kernel
theorem d_L_loudest_8 : decode b_L_loudest 8 = .ok (.lastore, 1) := by decide +kernel
theorem d_L_loudest_9 : decode b_L_loudest 9 = .ok (.goto 6, 3) := by decide +kernel
theorem d_L_loudest_12 : decode b_L_loudest 12 = .ok (.astore_n 3, 1) := by decide +kernel
theorem d_L_loudest_13 : decode b_L_loudest 13 = .ok (.iconst 1, 1) := by decide +kernel
theorem d_L_loudest_14 : decode b_L_loudest 14 = .ok (.ireturn, 1) := by decide +kernel
theorem d_L_loudest_15 : decode b_L_loudest 15 = .ok (.iconst 0, 1) := by decide +kernel
theorem d_L_loudest_16 : decode b_L_loudest 16 = .ok (.ireturn, 1) := by decide +kernel
theorem d_L_law_0 : decode code 0 = .ok (.new 8, 3) := by decide +kernel
theorem d_L_law_3 : decode code 3 = .ok (.dup, 1) := by decide +kernel
theorem d_L_law_4 : decode code 4 = .ok (.aload_n 0, 1) := by decide +kernel
theorem d_L_law_5 : decode code 5 = .ok (.iconst 0, 1) := by decide +kernel
theorem d_L_law_6 : decode code 6 = .ok (.invokestatic 52, 3) := by decide +kernel
theorem d_L_law_9 : decode code 9 = .ok (.aload_n 0, 1) := by decide +kernel
theorem d_L_law_10 : decode code 10 = .ok (.iconst 1, 1) := by decide +kernel
theorem d_L_law_11 : decode code 11 = .ok (.invokestatic 52, 3) := by decide +kernel
theorem d_L_law_14 : decode code 14 = .ok (.aload_n 0, 1) := by decide +kernel
theorem d_L_law_15 : decode code 15 = .ok (.iconst 2, 1) := by decide +kernel
theorem d_L_law_16 : decode code 16 = .ok (.invokestatic 52, 3) := by decide +kernel
theorem d_L_law_19 : decode code 19 = .ok (.invokespecial 58, 3) := by decide +kernel
theorem d_L_law_22 : decode code 22 = .ok (.astore_n 1, 1) := by decide +kernel
theorem d_L_law_23 : decode code 23 = .ok (.new 60, 3) := by decide +kernel
theorem d_L_law_26 : decode code 26 = .ok (.dup, 1) := by decide +kernel
theorem d_L_law_27 : decode code 27 = .ok (.aload_n 0, 1) := by decide +kernel
theorem d_L_law_28 : decode code 28 = .ok (.iconst 0, 1) := by decide +kernel
theorem d_L_law_29 : decode code 29 = .ok (.invokestatic 52, 3) := by decide +kernel
theorem d_L_law_32 : decode code 32 = .ok (.aload_n 0, 1) := by decide +kernel
theorem d_L_law_33 : decode code 33 = .ok (.iconst 1, 1) := by decide +kernel
theorem d_L_law_34 : decode code 34 = .ok (.invokestatic 52, 3) := by decide +kernel
theorem d_L_law_37 : decode code 37 = .ok (.aload_n 0, 1) := by decide +kernel
theorem d_L_law_38 : decode code 38 = .ok (.iconst 2, 1) := by decide +kernel
theorem d_L_law_39 : decode code 39 = .ok (.invokestatic 52, 3) := by decide +kernel
theorem d_L_law_42 : decode code 42 = .ok (.invokespecial 62, 3) := by decide +kernel
theorem d_L_law_45 : decode code 45 = .ok (.astore_n 2, 1) := by decide +kernel
theorem d_L_law_46 : decode code 46 = .ok (.iconst 1, 1) := by decide +kernel
theorem d_L_law_47 : decode code 47 = .ok (.newarray .long, 2) := by decide +kernel
theorem d_L_law_49 : decode code 49 = .ok (.astore_n 3, 1) := by decide +kernel
theorem d_L_law_50 : decode code 50 = .ok (.iconst 3, 1) := by decide +kernel
theorem d_L_law_51 : decode code 51 = .ok (.istore 4, 2) := by decide +kernel
theorem d_L_law_53 : decode code 53 = .ok (.iload 4, 2) := by decide +kernel
theorem d_L_law_55 : decode code 55 = .ok (.aload_n 0, 1) := by decide +kernel
theorem d_L_law_56 : decode code 56 = .ok (.arraylength, 1) := by decide +kernel
theorem d_L_law_57 : decode code 57 = .ok (.iconst 5, 1) := by decide +kernel
theorem d_L_law_58 : decode code 58 = .ok (.isub, 1) := by decide +kernel
theorem d_L_law_59 : decode code 59 = .ok (.if_icmp .gt 867, 3) := by decide +kernel
theorem d_L_law_62 : decode code 62 = .ok (.aload_n 0, 1) := by decide +kernel
theorem d_L_law_63 : decode code 63 = .ok (.iload 4, 2) := by decide +kernel
theorem d_L_law_65 : decode code 65 = .ok (.iaload, 1) := by decide +kernel
theorem d_L_law_66 : decode code 66 = .ok (.bipush 15, 2) := by decide +kernel
theorem d_L_law_68 : decode code 68 = .ok (.iand, 1) := by decide +kernel
theorem d_L_law_69 : decode code 69 = .ok (.tableswitch 851 0 10 #[59, 119, 179, 247, 338, 405, 485, 573, 640, 739, 795], 59) := by decide +kernel
theorem d_L_law_128 : decode code 128 = .ok (.aload_n 1, 1) := by decide +kernel
theorem d_L_law_129 : decode code 129 = .ok (.aload_n 0, 1) := by decide +kernel
theorem d_L_law_130 : decode code 130 = .ok (.iload 4, 2) := by decide +kernel
theorem d_L_law_132 : decode code 132 = .ok (.iconst 1, 1) := by decide +kernel
theorem d_L_law_133 : decode code 133 = .ok (.iadd, 1) := by decide +kernel
theorem d_L_law_134 : decode code 134 = .ok (.iaload, 1) := by decide +kernel
theorem d_L_law_135 : decode code 135 = .ok (.aload_n 0, 1) := by decide +kernel
theorem d_L_law_136 : decode code 136 = .ok (.iload 4, 2) := by decide +kernel
theorem d_L_law_138 : decode code 138 = .ok (.iconst 2, 1) := by decide +kernel
theorem d_L_law_139 : decode code 139 = .ok (.iadd, 1) := by decide +kernel
theorem d_L_law_140 : decode code 140 = .ok (.iaload, 1) := by decide +kernel
theorem d_L_law_141 : decode code 141 = .ok (.aload_n 0, 1) := by decide +kernel
theorem d_L_law_142 : decode code 142 = .ok (.iload 4, 2) := by decide +kernel
theorem d_L_law_144 : decode code 144 = .ok (.iconst 3, 1) := by decide +kernel
theorem d_L_law_145 : decode code 145 = .ok (.iadd, 1) := by decide +kernel
theorem d_L_law_146 : decode code 146 = .ok (.iaload, 1) := by decide +kernel
theorem d_L_law_147 : decode code 147 = .ok (.invokestatic 63, 3) := by decide +kernel
theorem d_L_law_150 : decode code 150 = .ok (.istore 5, 2) := by decide +kernel
theorem d_L_law_152 : decode code 152 = .ok (.aload_n 2, 1) := by decide +kernel
theorem d_L_law_153 : decode code 153 = .ok (.aload_n 0, 1) := by decide +kernel
theorem d_L_law_154 : decode code 154 = .ok (.iload 4, 2) := by decide +kernel
theorem d_L_law_156 : decode code 156 = .ok (.iconst 1, 1) := by decide +kernel
theorem d_L_law_157 : decode code 157 = .ok (.iadd, 1) := by decide +kernel
theorem d_L_law_158 : decode code 158 = .ok (.iaload, 1) := by decide +kernel
theorem d_L_law_159 : decode code 159 = .ok (.aload_n 0, 1) := by decide +kernel
theorem d_L_law_160 : decode code 160 = .ok (.iload 4, 2) := by decide +kernel
theorem d_L_law_162 : decode code 162 = .ok (.iconst 2, 1) := by decide +kernel
theorem d_L_law_163 : decode code 163 = .ok (.iadd, 1) := by decide +kernel
theorem d_L_law_164 : decode code 164 = .ok (.iaload, 1) := by decide +kernel
theorem d_L_law_165 : decode code 165 = .ok (.aload_n 0, 1) := by decide +kernel
theorem d_L_law_166 : decode code 166 = .ok (.iload 4, 2) := by decide +kernel
theorem d_L_law_168 : decode code 168 = .ok (.iconst 3, 1) := by decide +kernel
theorem d_L_law_169 : decode code 169 = .ok (.iadd, 1) := by decide +kernel
theorem d_L_law_170 : decode code 170 = .ok (.iaload, 1) := by decide +kernel
theorem d_L_law_171 : decode code 171 = .ok (.invokevirtual 66, 3) := by decide +kernel
theorem d_L_law_174 : decode code 174 = .ok (.aload_n 2, 1) := by decide +kernel
theorem d_L_law_175 : decode code 175 = .ok (.invokevirtual 67, 3) := by decide +kernel
theorem d_L_law_178 : decode code 178 = .ok (.iload 5, 2) := by decide +kernel
theorem d_L_law_180 : decode code 180 = .ok (.if_icmp .eq 5, 3) := by decide +kernel
theorem d_L_law_183 : decode code 183 = .ok (.iconst 0, 1) := by decide +kernel
theorem d_L_law_184 : decode code 184 = .ok (.ireturn, 1) := by decide +kernel
theorem d_L_law_185 : decode code 185 = .ok (.goto 735, 3) := by decide +kernel
theorem d_L_law_188 : decode code 188 = .ok (.aload_n 1, 1) := by decide +kernel
theorem d_L_law_189 : decode code 189 = .ok (.aload_n 0, 1) := by decide +kernel
theorem d_L_law_190 : decode code 190 = .ok (.iload 4, 2) := by decide +kernel
theorem d_L_law_192 : decode code 192 = .ok (.iconst 1, 1) := by decide +kernel
theorem d_L_law_193 : decode code 193 = .ok (.iadd, 1) := by decide +kernel
theorem d_L_law_194 : decode code 194 = .ok (.iaload, 1) := by decide +kernel
theorem d_L_law_195 : decode code 195 = .ok (.aload_n 0, 1) := by decide +kernel
theorem d_L_law_196 : decode code 196 = .ok (.iload 4, 2) := by decide +kernel
theorem d_L_law_198 : decode code 198 = .ok (.iconst 2, 1) := by decide +kernel
theorem d_L_law_199 : decode code 199 = .ok (.iadd, 1) := by decide +kernel
theorem d_L_law_200 : decode code 200 = .ok (.iaload, 1) := by decide +kernel
theorem d_L_law_201 : decode code 201 = .ok (.aload_n 0, 1) := by decide +kernel
theorem d_L_law_202 : decode code 202 = .ok (.iload 4, 2) := by decide +kernel
theorem d_L_law_204 : decode code 204 = .ok (.iconst 3, 1) := by decide +kernel
theorem d_L_law_205 : decode code 205 = .ok (.iadd, 1) := by decide +kernel
theorem d_L_law_206 : decode code 206 = .ok (.iaload, 1) := by decide +kernel
theorem d_L_law_207 : decode code 207 = .ok (.invokestatic 71, 3) := by decide +kernel
theorem d_L_law_210 : decode code 210 = .ok (.istore 5, 2) := by decide +kernel
theorem d_L_law_212 : decode code 212 = .ok (.aload_n 2, 1) := by decide +kernel
theorem d_L_law_213 : decode code 213 = .ok (.aload_n 0, 1) := by decide +kernel
theorem d_L_law_214 : decode code 214 = .ok (.iload 4, 2) := by decide +kernel
theorem d_L_law_216 : decode code 216 = .ok (.iconst 1, 1) := by decide +kernel
theorem d_L_law_217 : decode code 217 = .ok (.iadd, 1) := by decide +kernel
theorem d_L_law_218 : decode code 218 = .ok (.iaload, 1) := by decide +kernel
theorem d_L_law_219 : decode code 219 = .ok (.aload_n 0, 1) := by decide +kernel
theorem d_L_law_220 : decode code 220 = .ok (.iload 4, 2) := by decide +kernel
theorem d_L_law_222 : decode code 222 = .ok (.iconst 2, 1) := by decide +kernel
theorem d_L_law_223 : decode code 223 = .ok (.iadd, 1) := by decide +kernel
theorem d_L_law_224 : decode code 224 = .ok (.iaload, 1) := by decide +kernel
theorem d_L_law_225 : decode code 225 = .ok (.aload_n 0, 1) := by decide +kernel
theorem d_L_law_226 : decode code 226 = .ok (.iload 4, 2) := by decide +kernel
theorem d_L_law_228 : decode code 228 = .ok (.iconst 3, 1) := by decide +kernel
theorem d_L_law_229 : decode code 229 = .ok (.iadd, 1) := by decide +kernel
theorem d_L_law_230 : decode code 230 = .ok (.iaload, 1) := by decide +kernel
theorem d_L_law_231 : decode code 231 = .ok (.invokevirtual 73, 3) := by decide +kernel
theorem d_L_law_234 : decode code 234 = .ok (.aload_n 2, 1) := by decide +kernel
theorem d_L_law_235 : decode code 235 = .ok (.invokevirtual 67, 3) := by decide +kernel
theorem d_L_law_238 : decode code 238 = .ok (.iload 5, 2) := by decide +kernel
theorem d_L_law_240 : decode code 240 = .ok (.if_icmp .eq 5, 3) := by decide +kernel
theorem d_L_law_243 : decode code 243 = .ok (.iconst 0, 1) := by decide +kernel
theorem d_L_law_244 : decode code 244 = .ok (.ireturn, 1) := by decide +kernel
theorem d_L_law_245 : decode code 245 = .ok (.goto 675, 3) := by decide +kernel
theorem d_L_law_248 : decode code 248 = .ok (.aload_n 1, 1) := by decide +kernel
theorem d_L_law_249 : decode code 249 = .ok (.aload_n 0, 1) := by decide +kernel
theorem d_L_law_250 : decode code 250 = .ok (.iload 4, 2) := by decide +kernel
theorem d_L_law_252 : decode code 252 = .ok (.iconst 1, 1) := by decide +kernel
theorem d_L_law_253 : decode code 253 = .ok (.iadd, 1) := by decide +kernel
theorem d_L_law_254 : decode code 254 = .ok (.iaload, 1) := by decide +kernel
theorem d_L_law_255 : decode code 255 = .ok (.aload_n 0, 1) := by decide +kernel
theorem d_L_law_256 : decode code 256 = .ok (.iload 4, 2) := by decide +kernel
theorem d_L_law_258 : decode code 258 = .ok (.iconst 2, 1) := by decide +kernel
theorem d_L_law_259 : decode code 259 = .ok (.iadd, 1) := by decide +kernel
theorem d_L_law_260 : decode code 260 = .ok (.iaload, 1) := by decide +kernel
theorem d_L_law_261 : decode code 261 = .ok (.aload_n 3, 1) := by decide +kernel
theorem d_L_law_262 : decode code 262 = .ok (.invokestatic 74, 3) := by decide +kernel
theorem d_L_law_265 : decode code 265 = .ok (.istore 5, 2) := by decide +kernel
theorem d_L_law_267 : decode code 267 = .ok (.aload_n 2, 1) := by decide +kernel
theorem d_L_law_268 : decode code 268 = .ok (.aload_n 0, 1) := by decide +kernel
theorem d_L_law_269 : decode code 269 = .ok (.iload 4, 2) := by decide +kernel
theorem d_L_law_271 : decode code 271 = .ok (.iconst 1, 1) := by decide +kernel
theorem d_L_law_272 : decode code 272 = .ok (.iadd, 1) := by decide +kernel
theorem d_L_law_273 : decode code 273 = .ok (.iaload, 1) := by decide +kernel
theorem d_L_law_274 : decode code 274 = .ok (.aload_n 0, 1) := by decide +kernel
theorem d_L_law_275 : decode code 275 = .ok (.iload 4, 2) := by decide +kernel
theorem d_L_law_277 : decode code 277 = .ok (.iconst 2, 1) := by decide +kernel
theorem d_L_law_278 : decode code 278 = .ok (.iadd, 1) := by decide +kernel
theorem d_L_law_279 : decode code 279 = .ok (.iaload, 1) := by decide +kernel
theorem d_L_law_280 : decode code 280 = .ok (.invokevirtual 77, 3) := by decide +kernel
theorem d_L_law_283 : decode code 283 = .ok (.istore 6, 2) := by decide +kernel
theorem d_L_law_285 : decode code 285 = .ok (.aload_n 2, 1) := by decide +kernel
theorem d_L_law_286 : decode code 286 = .ok (.invokevirtual 67, 3) := by decide +kernel
theorem d_L_law_289 : decode code 289 = .ok (.iload 5, 2) := by decide +kernel
theorem d_L_law_291 : decode code 291 = .ok (.if_icmp .eq 5, 3) := by decide +kernel
theorem d_L_law_294 : decode code 294 = .ok (.iconst 0, 1) := by decide +kernel
theorem d_L_law_295 : decode code 295 = .ok (.ireturn, 1) := by decide +kernel
theorem d_L_law_296 : decode code 296 = .ok (.iload 5, 2) := by decide +kernel
theorem d_L_law_298 : decode code 298 = .ok (.ifCond .ne 15, 3) := by decide +kernel
theorem d_L_law_301 : decode code 301 = .ok (.aload_n 3, 1) := by decide +kernel
theorem d_L_law_302 : decode code 302 = .ok (.iconst 0, 1) := by decide +kernel
theorem d_L_law_303 : decode code 303 = .ok (.laload, 1) := by decide +kernel
theorem d_L_law_304 : decode code 304 = .ok (.iload 6, 2) := by decide +kernel
end
section
theorem d_L_law_306 : decode code 306 = .ok (.i2l, 1) := by decide +kernel
theorem d_L_law_307 : decode code 307 = .ok (.lcmp, 1) := by decide +kernel
theorem d_L_law_308 : decode code 308 = .ok (.ifCond .eq 5, 3) := by decide +kernel
theorem d_L_law_311 : decode code 311 = .ok (.iconst 0, 1) := by decide +kernel
theorem d_L_law_312 : decode code 312 = .ok (.ireturn, 1) := by decide +kernel
theorem d_L_law_313 : decode code 313 = .ok (.goto 607, 3) := by decide +kernel
theorem d_L_law_316 : decode code 316 = .ok (.aload_n 1, 1) := by decide +kernel
theorem d_L_law_317 : decode code 317 = .ok (.aload_n 0, 1) := by decide +kernel
theorem d_L_law_318 : decode code 318 = .ok (.iload 4, 2) := by decide +kernel
theorem d_L_law_320 : decode code 320 = .ok (.iconst 1, 1) := by decide +kernel
theorem d_L_law_321 : decode code 321 = .ok (.iadd, 1) := by decide +kernel
theorem d_L_law_322 : decode code 322 = .ok (.iaload, 1) := by decide +kernel
theorem d_L_law_323 : decode code 323 = .ok (.aload_n 0, 1) := by decide +kernel
theorem d_L_law_324 : decode code 324 = .ok (.iload 4, 2) := by decide +kernel
theorem d_L_law_326 : decode code 326 = .ok (.iconst 2, 1) := by decide +kernel
theorem d_L_law_327 : decode code 327 = .ok (.iadd, 1) := by decide +kernel
theorem d_L_law_328 : decode code 328 = .ok (.iaload, 1) := by decide +kernel
theorem d_L_law_329 : decode code 329 = .ok (.aload_n 0, 1) := by decide +kernel
theorem d_L_law_330 : decode code 330 = .ok (.iload 4, 2) := by decide +kernel
theorem d_L_law_332 : decode code 332 = .ok (.iconst 3, 1) := by decide +kernel
theorem d_L_law_333 : decode code 333 = .ok (.iadd, 1) := by decide +kernel
theorem d_L_law_334 : decode code 334 = .ok (.iaload, 1) := by decide +kernel
theorem d_L_law_335 : decode code 335 = .ok (.aload_n 0, 1) := by decide +kernel
theorem d_L_law_336 : decode code 336 = .ok (.iload 4, 2) := by decide +kernel
theorem d_L_law_338 : decode code 338 = .ok (.iconst 4, 1) := by decide +kernel
theorem d_L_law_339 : decode code 339 = .ok (.iadd, 1) := by decide +kernel
theorem d_L_law_340 : decode code 340 = .ok (.iaload, 1) := by decide +kernel
theorem d_L_law_341 : decode code 341 = .ok (.aload_n 3, 1) := by decide +kernel
theorem d_L_law_342 : decode code 342 = .ok (.invokestatic 78, 3) := by decide +kernel
theorem d_L_law_345 : decode code 345 = .ok (.istore 5, 2) := by decide +kernel
theorem d_L_law_347 : decode code 347 = .ok (.aload_n 2, 1) := by decide +kernel
theorem d_L_law_348 : decode code 348 = .ok (.aload_n 0, 1) := by decide +kernel
theorem d_L_law_349 : decode code 349 = .ok (.iload 4, 2) := by decide +kernel
theorem d_L_law_351 : decode code 351 = .ok (.iconst 1, 1) := by decide +kernel
theorem d_L_law_352 : decode code 352 = .ok (.iadd, 1) := by decide +kernel
theorem d_L_law_353 : decode code 353 = .ok (.iaload, 1) := by decide +kernel
theorem d_L_law_354 : decode code 354 = .ok (.aload_n 0, 1) := by decide +kernel
theorem d_L_law_355 : decode code 355 = .ok (.iload 4, 2) := by decide +kernel
theorem d_L_law_357 : decode code 357 = .ok (.iconst 2, 1) := by decide +kernel
theorem d_L_law_358 : decode code 358 = .ok (.iadd, 1) := by decide +kernel
theorem d_L_law_359 : decode code 359 = .ok (.iaload, 1) := by decide +kernel
theorem d_L_law_360 : decode code 360 = .ok (.aload_n 0, 1) := by decide +kernel
theorem d_L_law_361 : decode code 361 = .ok (.iload 4, 2) := by decide +kernel
theorem d_L_law_363 : decode code 363 = .ok (.iconst 3, 1) := by decide +kernel
theorem d_L_law_364 : decode code 364 = .ok (.iadd, 1) := by decide +kernel
theorem d_L_law_365 : decode code 365 = .ok (.iaload, 1) := by decide +kernel
theorem d_L_law_366 : decode code 366 = .ok (.aload_n 0, 1) := by decide +kernel
theorem d_L_law_367 : decode code 367 = .ok (.iload 4, 2) := by decide +kernel
theorem d_L_law_369 : decode code 369 = .ok (.iconst 4, 1) := by decide +kernel
theorem d_L_law_370 : decode code 370 = .ok (.iadd, 1) := by decide +kernel
theorem d_L_law_371 : decode code 371 = .ok (.iaload, 1) := by decide +kernel
theorem d_L_law_372 : decode code 372 = .ok (.invokevirtual 81, 3) := by decide +kernel
theorem d_L_law_375 : decode code 375 = .ok (.lstore 6, 2) := by decide +kernel
theorem d_L_law_377 : decode code 377 = .ok (.aload_n 2, 1) := by decide +kernel
theorem d_L_law_378 : decode code 378 = .ok (.invokevirtual 67, 3) := by decide +kernel
theorem d_L_law_381 : decode code 381 = .ok (.iload 5, 2) := by decide +kernel
theorem d_L_law_383 : decode code 383 = .ok (.if_icmp .eq 5, 3) := by decide +kernel
theorem d_L_law_386 : decode code 386 = .ok (.iconst 0, 1) := by decide +kernel
theorem d_L_law_387 : decode code 387 = .ok (.ireturn, 1) := by decide +kernel
theorem d_L_law_388 : decode code 388 = .ok (.iload 5, 2) := by decide +kernel
theorem d_L_law_390 : decode code 390 = .ok (.ifCond .ne 14, 3) := by decide +kernel
theorem d_L_law_393 : decode code 393 = .ok (.aload_n 3, 1) := by decide +kernel
theorem d_L_law_394 : decode code 394 = .ok (.iconst 0, 1) := by decide +kernel
theorem d_L_law_395 : decode code 395 = .ok (.laload, 1) := by decide +kernel
theorem d_L_law_396 : decode code 396 = .ok (.lload 6, 2) := by decide +kernel
theorem d_L_law_398 : decode code 398 = .ok (.lcmp, 1) := by decide +kernel
theorem d_L_law_399 : decode code 399 = .ok (.ifCond .eq 5, 3) := by decide +kernel
theorem d_L_law_402 : decode code 402 = .ok (.iconst 0, 1) := by decide +kernel
theorem d_L_law_403 : decode code 403 = .ok (.ireturn, 1) := by decide +kernel
theorem d_L_law_404 : decode code 404 = .ok (.goto 516, 3) := by decide +kernel
theorem d_L_law_407 : decode code 407 = .ok (.aload_n 1, 1) := by decide +kernel
theorem d_L_law_408 : decode code 408 = .ok (.aload_n 0, 1) := by decide +kernel
theorem d_L_law_409 : decode code 409 = .ok (.iload 4, 2) := by decide +kernel
theorem d_L_law_411 : decode code 411 = .ok (.iconst 1, 1) := by decide +kernel
theorem d_L_law_412 : decode code 412 = .ok (.iadd, 1) := by decide +kernel
theorem d_L_law_413 : decode code 413 = .ok (.iaload, 1) := by decide +kernel
theorem d_L_law_414 : decode code 414 = .ok (.aload_n 0, 1) := by decide +kernel
theorem d_L_law_415 : decode code 415 = .ok (.iload 4, 2) := by decide +kernel
theorem d_L_law_417 : decode code 417 = .ok (.iconst 2, 1) := by decide +kernel
theorem d_L_law_418 : decode code 418 = .ok (.iadd, 1) := by decide +kernel
theorem d_L_law_419 : decode code 419 = .ok (.iaload, 1) := by decide +kernel
theorem d_L_law_420 : decode code 420 = .ok (.aload_n 3, 1) := by decide +kernel
theorem d_L_law_421 : decode code 421 = .ok (.invokestatic 82, 3) := by decide +kernel
theorem d_L_law_424 : decode code 424 = .ok (.istore 5, 2) := by decide +kernel
theorem d_L_law_426 : decode code 426 = .ok (.aload_n 2, 1) := by decide +kernel
theorem d_L_law_427 : decode code 427 = .ok (.aload_n 0, 1) := by decide +kernel
theorem d_L_law_428 : decode code 428 = .ok (.iload 4, 2) := by decide +kernel
theorem d_L_law_430 : decode code 430 = .ok (.iconst 1, 1) := by decide +kernel
theorem d_L_law_431 : decode code 431 = .ok (.iadd, 1) := by decide +kernel
theorem d_L_law_432 : decode code 432 = .ok (.iaload, 1) := by decide +kernel
theorem d_L_law_433 : decode code 433 = .ok (.aload_n 0, 1) := by decide +kernel
theorem d_L_law_434 : decode code 434 = .ok (.iload 4, 2) := by decide +kernel
theorem d_L_law_436 : decode code 436 = .ok (.iconst 2, 1) := by decide +kernel
theorem d_L_law_437 : decode code 437 = .ok (.iadd, 1) := by decide +kernel
theorem d_L_law_438 : decode code 438 = .ok (.iaload, 1) := by decide +kernel
theorem d_L_law_439 : decode code 439 = .ok (.invokevirtual 84, 3) := by decide +kernel
theorem d_L_law_442 : decode code 442 = .ok (.lstore 6, 2) := by decide +kernel
theorem d_L_law_444 : decode code 444 = .ok (.aload_n 2, 1) := by decide +kernel
theorem d_L_law_445 : decode code 445 = .ok (.invokevirtual 67, 3) := by decide +kernel
theorem d_L_law_448 : decode code 448 = .ok (.iload 5, 2) := by decide +kernel
theorem d_L_law_450 : decode code 450 = .ok (.if_icmp .eq 5, 3) := by decide +kernel
theorem d_L_law_453 : decode code 453 = .ok (.iconst 0, 1) := by decide +kernel
theorem d_L_law_454 : decode code 454 = .ok (.ireturn, 1) := by decide +kernel
theorem d_L_law_455 : decode code 455 = .ok (.iload 5, 2) := by decide +kernel
theorem d_L_law_457 : decode code 457 = .ok (.ifCond .ne 14, 3) := by decide +kernel
theorem d_L_law_460 : decode code 460 = .ok (.aload_n 3, 1) := by decide +kernel
theorem d_L_law_461 : decode code 461 = .ok (.iconst 0, 1) := by decide +kernel
theorem d_L_law_462 : decode code 462 = .ok (.laload, 1) := by decide +kernel
theorem d_L_law_463 : decode code 463 = .ok (.lload 6, 2) := by decide +kernel
theorem d_L_law_465 : decode code 465 = .ok (.lcmp, 1) := by decide +kernel
theorem d_L_law_466 : decode code 466 = .ok (.ifCond .eq 5, 3) := by decide +kernel
theorem d_L_law_469 : decode code 469 = .ok (.iconst 0, 1) := by decide +kernel
theorem d_L_law_470 : decode code 470 = .ok (.ireturn, 1) := by decide +kernel
theorem d_L_law_471 : decode code 471 = .ok (.goto 449, 3) := by decide +kernel
theorem d_L_law_474 : decode code 474 = .ok (.aload_n 1, 1) := by decide +kernel
theorem d_L_law_475 : decode code 475 = .ok (.aload_n 0, 1) := by decide +kernel
theorem d_L_law_476 : decode code 476 = .ok (.iload 4, 2) := by decide +kernel
theorem d_L_law_478 : decode code 478 = .ok (.iconst 1, 1) := by decide +kernel
theorem d_L_law_479 : decode code 479 = .ok (.iadd, 1) := by decide +kernel
theorem d_L_law_480 : decode code 480 = .ok (.iaload, 1) := by decide +kernel
theorem d_L_law_481 : decode code 481 = .ok (.aload_n 0, 1) := by decide +kernel
theorem d_L_law_482 : decode code 482 = .ok (.iload 4, 2) := by decide +kernel
theorem d_L_law_484 : decode code 484 = .ok (.iconst 2, 1) := by decide +kernel
theorem d_L_law_485 : decode code 485 = .ok (.iadd, 1) := by decide +kernel
theorem d_L_law_486 : decode code 486 = .ok (.iaload, 1) := by decide +kernel
theorem d_L_law_487 : decode code 487 = .ok (.aload_n 0, 1) := by decide +kernel
theorem d_L_law_488 : decode code 488 = .ok (.iload 4, 2) := by decide +kernel
theorem d_L_law_490 : decode code 490 = .ok (.iconst 3, 1) := by decide +kernel
theorem d_L_law_491 : decode code 491 = .ok (.iadd, 1) := by decide +kernel
theorem d_L_law_492 : decode code 492 = .ok (.iaload, 1) := by decide +kernel
theorem d_L_law_493 : decode code 493 = .ok (.aload_n 3, 1) := by decide +kernel
theorem d_L_law_494 : decode code 494 = .ok (.invokestatic 85, 3) := by decide +kernel
theorem d_L_law_497 : decode code 497 = .ok (.istore 5, 2) := by decide +kernel
theorem d_L_law_499 : decode code 499 = .ok (.aload_n 2, 1) := by decide +kernel
theorem d_L_law_500 : decode code 500 = .ok (.aload_n 0, 1) := by decide +kernel
theorem d_L_law_501 : decode code 501 = .ok (.iload 4, 2) := by decide +kernel
theorem d_L_law_503 : decode code 503 = .ok (.iconst 1, 1) := by decide +kernel
theorem d_L_law_504 : decode code 504 = .ok (.iadd, 1) := by decide +kernel
theorem d_L_law_505 : decode code 505 = .ok (.iaload, 1) := by decide +kernel
theorem d_L_law_506 : decode code 506 = .ok (.aload_n 0, 1) := by decide +kernel
theorem d_L_law_507 : decode code 507 = .ok (.iload 4, 2) := by decide +kernel
theorem d_L_law_509 : decode code 509 = .ok (.iconst 2, 1) := by decide +kernel
theorem d_L_law_510 : decode code 510 = .ok (.iadd, 1) := by decide +kernel
theorem d_L_law_511 : decode code 511 = .ok (.iaload, 1) := by decide +kernel
theorem d_L_law_512 : decode code 512 = .ok (.aload_n 0, 1) := by decide +kernel
theorem d_L_law_513 : decode code 513 = .ok (.iload 4, 2) := by decide +kernel
theorem d_L_law_515 : decode code 515 = .ok (.iconst 3, 1) := by decide +kernel
theorem d_L_law_516 : decode code 516 = .ok (.iadd, 1) := by decide +kernel
theorem d_L_law_517 : decode code 517 = .ok (.iaload, 1) := by decide +kernel
theorem d_L_law_518 : decode code 518 = .ok (.invokevirtual 88, 3) := by decide +kernel
theorem d_L_law_521 : decode code 521 = .ok (.istore 6, 2) := by decide +kernel
theorem d_L_law_523 : decode code 523 = .ok (.aload_n 2, 1) := by decide +kernel
theorem d_L_law_524 : decode code 524 = .ok (.invokevirtual 67, 3) := by decide +kernel
theorem d_L_law_527 : decode code 527 = .ok (.iload 5, 2) := by decide +kernel
theorem d_L_law_529 : decode code 529 = .ok (.if_icmp .eq 5, 3) := by decide +kernel
theorem d_L_law_532 : decode code 532 = .ok (.iconst 0, 1) := by decide +kernel
theorem d_L_law_533 : decode code 533 = .ok (.ireturn, 1) := by decide +kernel
theorem d_L_law_534 : decode code 534 = .ok (.iload 5, 2) := by decide +kernel
theorem d_L_law_536 : decode code 536 = .ok (.ifCond .ne 15, 3) := by decide +kernel
theorem d_L_law_539 : decode code 539 = .ok (.aload_n 3, 1) := by decide +kernel
theorem d_L_law_540 : decode code 540 = .ok (.iconst 0, 1) := by decide +kernel
theorem d_L_law_541 : decode code 541 = .ok (.laload, 1) := by decide +kernel
theorem d_L_law_542 : decode code 542 = .ok (.iload 6, 2) := by decide +kernel
theorem d_L_law_544 : decode code 544 = .ok (.i2l, 1) := by decide +kernel
theorem d_L_law_545 : decode code 545 = .ok (.lcmp, 1) := by decide +kernel
theorem d_L_law_546 : decode code 546 = .ok (.ifCond .eq 5, 3) := by decide +kernel
theorem d_L_law_549 : decode code 549 = .ok (.iconst 0, 1) := by decide +kernel
theorem d_L_law_550 : decode code 550 = .ok (.ireturn, 1) := by decide +kernel
theorem d_L_law_551 : decode code 551 = .ok (.goto 369, 3) := by decide +kernel
theorem d_L_law_554 : decode code 554 = .ok (.aload_n 1, 1) := by decide +kernel
theorem d_L_law_555 : decode code 555 = .ok (.aload_n 0, 1) := by decide +kernel
theorem d_L_law_556 : decode code 556 = .ok (.iload 4, 2) := by decide +kernel
theorem d_L_law_558 : decode code 558 = .ok (.iconst 1, 1) := by decide +kernel
theorem d_L_law_559 : decode code 559 = .ok (.iadd, 1) := by decide +kernel
theorem d_L_law_560 : decode code 560 = .ok (.iaload, 1) := by decide +kernel
theorem d_L_law_561 : decode code 561 = .ok (.i2l, 1) := by decide +kernel
theorem d_L_law_562 : decode code 562 = .ok (.bipush 32, 2) := by decide +kernel
theorem d_L_law_564 : decode code 564 = .ok (.lshl, 1) := by decide +kernel
theorem d_L_law_565 : decode code 565 = .ok (.aload_n 0, 1) := by decide +kernel
theorem d_L_law_566 : decode code 566 = .ok (.iload 4, 2) := by decide +kernel
theorem d_L_law_568 : decode code 568 = .ok (.iconst 2, 1) := by decide +kernel
theorem d_L_law_569 : decode code 569 = .ok (.iadd, 1) := by decide +kernel
theorem d_L_law_570 : decode code 570 = .ok (.iaload, 1) := by decide +kernel
theorem d_L_law_571 : decode code 571 = .ok (.i2l, 1) := by decide +kernel
theorem d_L_law_572 : decode code 572 = .ok (.ldc2_w 89, 3) := by decide +kernel
theorem d_L_law_575 : decode code 575 = .ok (.land, 1) := by decide +kernel
theorem d_L_law_576 : decode code 576 = .ok (.lor, 1) := by decide +kernel
theorem d_L_law_577 : decode code 577 = .ok (.aload_n 3, 1) := by decide +kernel
theorem d_L_law_578 : decode code 578 = .ok (.invokestatic 91, 3) := by decide +kernel
theorem d_L_law_581 : decode code 581 = .ok (.istore 5, 2) := by decide +kernel
theorem d_L_law_583 : decode code 583 = .ok (.aload_n 2, 1) := by decide +kernel
theorem d_L_law_584 : decode code 584 = .ok (.aload_n 0, 1) := by decide +kernel
theorem d_L_law_585 : decode code 585 = .ok (.iload 4, 2) := by decide +kernel
theorem d_L_law_587 : decode code 587 = .ok (.iconst 1, 1) := by decide +kernel
theorem d_L_law_588 : decode code 588 = .ok (.iadd, 1) := by decide +kernel
theorem d_L_law_589 : decode code 589 = .ok (.iaload, 1) := by decide +kernel
theorem d_L_law_590 : decode code 590 = .ok (.i2l, 1) := by decide +kernel
theorem d_L_law_591 : decode code 591 = .ok (.bipush 32, 2) := by decide +kernel
theorem d_L_law_593 : decode code 593 = .ok (.lshl, 1) := by decide +kernel
theorem d_L_law_594 : decode code 594 = .ok (.aload_n 0, 1) := by decide +kernel
theorem d_L_law_595 : decode code 595 = .ok (.iload 4, 2) := by decide +kernel
theorem d_L_law_597 : decode code 597 = .ok (.iconst 2, 1) := by decide +kernel
theorem d_L_law_598 : decode code 598 = .ok (.iadd, 1) := by decide +kernel
theorem d_L_law_599 : decode code 599 = .ok (.iaload, 1) := by decide +kernel
theorem d_L_law_600 : decode code 600 = .ok (.i2l, 1) := by decide +kernel
theorem d_L_law_601 : decode code 601 = .ok (.ldc2_w 89, 3) := by decide +kernel
theorem d_L_law_604 : decode code 604 = .ok (.land, 1) := by decide +kernel
theorem d_L_law_605 : decode code 605 = .ok (.lor, 1) := by decide +kernel
theorem d_L_law_606 : decode code 606 = .ok (.invokevirtual 94, 3) := by decide +kernel
theorem d_L_law_609 : decode code 609 = .ok (.istore 6, 2) := by decide +kernel
theorem d_L_law_611 : decode code 611 = .ok (.aload_n 2, 1) := by decide +kernel
theorem d_L_law_612 : decode code 612 = .ok (.invokevirtual 67, 3) := by decide +kernel
theorem d_L_law_615 : decode code 615 = .ok (.iload 5, 2) := by decide +kernel
theorem d_L_law_617 : decode code 617 = .ok (.if_icmp .eq 5, 3) := by decide +kernel
theorem d_L_law_620 : decode code 620 = .ok (.iconst 0, 1) := by decide +kernel
theorem d_L_law_621 : decode code 621 = .ok (.ireturn, 1) := by decide +kernel
theorem d_L_law_622 : decode code 622 = .ok (.iload 5, 2) := by decide +kernel
theorem d_L_law_624 : decode code 624 = .ok (.ifCond .ne 15, 3) := by decide +kernel
theorem d_L_law_627 : decode code 627 = .ok (.aload_n 3, 1) := by decide +kernel
theorem d_L_law_628 : decode code 628 = .ok (.iconst 0, 1) := by decide +kernel
theorem d_L_law_629 : decode code 629 = .ok (.laload, 1) := by decide +kernel
theorem d_L_law_630 : decode code 630 = .ok (.iload 6, 2) := by decide +kernel
theorem d_L_law_632 : decode code 632 = .ok (.i2l, 1) := by decide +kernel
theorem d_L_law_633 : decode code 633 = .ok (.lcmp, 1) := by decide +kernel
theorem d_L_law_634 : decode code 634 = .ok (.ifCond .eq 5, 3) := by decide +kernel
theorem d_L_law_637 : decode code 637 = .ok (.iconst 0, 1) := by decide +kernel
theorem d_L_law_638 : decode code 638 = .ok (.ireturn, 1) := by decide +kernel
theorem d_L_law_639 : decode code 639 = .ok (.goto 281, 3) := by decide +kernel
theorem d_L_law_642 : decode code 642 = .ok (.aload_n 1, 1) := by decide +kernel
theorem d_L_law_643 : decode code 643 = .ok (.aload_n 0, 1) := by decide +kernel
theorem d_L_law_644 : decode code 644 = .ok (.iload 4, 2) := by decide +kernel
theorem d_L_law_646 : decode code 646 = .ok (.iconst 1, 1) := by decide +kernel
theorem d_L_law_647 : decode code 647 = .ok (.iadd, 1) := by decide +kernel
theorem d_L_law_648 : decode code 648 = .ok (.iaload, 1) := by decide +kernel
theorem d_L_law_649 : decode code 649 = .ok (.aload_n 0, 1) := by decide +kernel
theorem d_L_law_650 : decode code 650 = .ok (.iload 4, 2) := by decide +kernel
theorem d_L_law_652 : decode code 652 = .ok (.iconst 2, 1) := by decide +kernel
theorem d_L_law_653 : decode code 653 = .ok (.iadd, 1) := by decide +kernel
theorem d_L_law_654 : decode code 654 = .ok (.iaload, 1) := by decide +kernel
theorem d_L_law_655 : decode code 655 = .ok (.aload_n 3, 1) := by decide +kernel
theorem d_L_law_656 : decode code 656 = .ok (.invokestatic 95, 3) := by decide +kernel
theorem d_L_law_659 : decode code 659 = .ok (.istore 5, 2) := by decide +kernel
theorem d_L_law_661 : decode code 661 = .ok (.aload_n 2, 1) := by decide +kernel
theorem d_L_law_662 : decode code 662 = .ok (.aload_n 0, 1) := by decide +kernel
theorem d_L_law_663 : decode code 663 = .ok (.iload 4, 2) := by decide +kernel
theorem d_L_law_665 : decode code 665 = .ok (.iconst 1, 1) := by decide +kernel
theorem d_L_law_666 : decode code 666 = .ok (.iadd, 1) := by decide +kernel
theorem d_L_law_667 : decode code 667 = .ok (.iaload, 1) := by decide +kernel
theorem d_L_law_668 : decode code 668 = .ok (.aload_n 0, 1) := by decide +kernel
theorem d_L_law_669 : decode code 669 = .ok (.iload 4, 2) := by decide +kernel
theorem d_L_law_671 : decode code 671 = .ok (.iconst 2, 1) := by decide +kernel
theorem d_L_law_672 : decode code 672 = .ok (.iadd, 1) := by decide +kernel
theorem d_L_law_673 : decode code 673 = .ok (.iaload, 1) := by decide +kernel
theorem d_L_law_674 : decode code 674 = .ok (.invokevirtual 97, 3) := by decide +kernel
theorem d_L_law_677 : decode code 677 = .ok (.lstore 6, 2) := by decide +kernel
theorem d_L_law_679 : decode code 679 = .ok (.aload_n 2, 1) := by decide +kernel
theorem d_L_law_680 : decode code 680 = .ok (.invokevirtual 67, 3) := by decide +kernel
theorem d_L_law_683 : decode code 683 = .ok (.iload 5, 2) := by decide +kernel
theorem d_L_law_685 : decode code 685 = .ok (.if_icmp .eq 5, 3) := by decide +kernel
theorem d_L_law_688 : decode code 688 = .ok (.iconst 0, 1) := by decide +kernel
theorem d_L_law_689 : decode code 689 = .ok (.ireturn, 1) := by decide +kernel
theorem d_L_law_690 : decode code 690 = .ok (.iload 5, 2) := by decide +kernel
theorem d_L_law_692 : decode code 692 = .ok (.ifCond .ne 14, 3) := by decide +kernel
theorem d_L_law_695 : decode code 695 = .ok (.aload_n 3, 1) := by decide +kernel
theorem d_L_law_696 : decode code 696 = .ok (.iconst 0, 1) := by decide +kernel
theorem d_L_law_697 : decode code 697 = .ok (.laload, 1) := by decide +kernel
theorem d_L_law_698 : decode code 698 = .ok (.lload 6, 2) := by decide +kernel
theorem d_L_law_700 : decode code 700 = .ok (.lcmp, 1) := by decide +kernel
theorem d_L_law_701 : decode code 701 = .ok (.ifCond .eq 5, 3) := by decide +kernel
theorem d_L_law_704 : decode code 704 = .ok (.iconst 0, 1) := by decide +kernel
theorem d_L_law_705 : decode code 705 = .ok (.ireturn, 1) := by decide +kernel
theorem d_L_law_706 : decode code 706 = .ok (.goto 214, 3) := by decide +kernel
theorem d_L_law_709 : decode code 709 = .ok (.aload_n 1, 1) := by decide +kernel
theorem d_L_law_710 : decode code 710 = .ok (.aload_n 0, 1) := by decide +kernel
theorem d_L_law_711 : decode code 711 = .ok (.iload 4, 2) := by decide +kernel
theorem d_L_law_713 : decode code 713 = .ok (.iconst 1, 1) := by decide +kernel
theorem d_L_law_714 : decode code 714 = .ok (.iadd, 1) := by decide +kernel
theorem d_L_law_715 : decode code 715 = .ok (.iaload, 1) := by decide +kernel
theorem d_L_law_716 : decode code 716 = .ok (.i2l, 1) := by decide +kernel
theorem d_L_law_717 : decode code 717 = .ok (.bipush 32, 2) := by decide +kernel
theorem d_L_law_719 : decode code 719 = .ok (.lshl, 1) := by decide +kernel
theorem d_L_law_720 : decode code 720 = .ok (.aload_n 0, 1) := by decide +kernel
theorem d_L_law_721 : decode code 721 = .ok (.iload 4, 2) := by decide +kernel
theorem d_L_law_723 : decode code 723 = .ok (.iconst 2, 1) := by decide +kernel
theorem d_L_law_724 : decode code 724 = .ok (.iadd, 1) := by decide +kernel
theorem d_L_law_725 : decode code 725 = .ok (.iaload, 1) := by decide +kernel
theorem d_L_law_726 : decode code 726 = .ok (.i2l, 1) := by decide +kernel
theorem d_L_law_727 : decode code 727 = .ok (.ldc2_w 89, 3) := by decide +kernel
theorem d_L_law_730 : decode code 730 = .ok (.land, 1) := by decide +kernel
theorem d_L_law_731 : decode code 731 = .ok (.lor, 1) := by decide +kernel
theorem d_L_law_732 : decode code 732 = .ok (.aload_n 0, 1) := by decide +kernel
theorem d_L_law_733 : decode code 733 = .ok (.iload 4, 2) := by decide +kernel
theorem d_L_law_735 : decode code 735 = .ok (.iconst 3, 1) := by decide +kernel
theorem d_L_law_736 : decode code 736 = .ok (.iadd, 1) := by decide +kernel
theorem d_L_law_737 : decode code 737 = .ok (.iaload, 1) := by decide +kernel
theorem d_L_law_738 : decode code 738 = .ok (.aload_n 3, 1) := by decide +kernel
theorem d_L_law_739 : decode code 739 = .ok (.invokestatic 98, 3) := by decide +kernel
theorem d_L_law_742 : decode code 742 = .ok (.istore 5, 2) := by decide +kernel
theorem d_L_law_744 : decode code 744 = .ok (.aload_n 2, 1) := by decide +kernel
theorem d_L_law_745 : decode code 745 = .ok (.aload_n 0, 1) := by decide +kernel
theorem d_L_law_746 : decode code 746 = .ok (.iload 4, 2) := by decide +kernel
theorem d_L_law_748 : decode code 748 = .ok (.iconst 1, 1) := by decide +kernel
theorem d_L_law_749 : decode code 749 = .ok (.iadd, 1) := by decide +kernel
theorem d_L_law_750 : decode code 750 = .ok (.iaload, 1) := by decide +kernel
theorem d_L_law_751 : decode code 751 = .ok (.i2l, 1) := by decide +kernel
theorem d_L_law_752 : decode code 752 = .ok (.bipush 32, 2) := by decide +kernel
theorem d_L_law_754 : decode code 754 = .ok (.lshl, 1) := by decide +kernel
theorem d_L_law_755 : decode code 755 = .ok (.aload_n 0, 1) := by decide +kernel
theorem d_L_law_756 : decode code 756 = .ok (.iload 4, 2) := by decide +kernel
theorem d_L_law_758 : decode code 758 = .ok (.iconst 2, 1) := by decide +kernel
theorem d_L_law_759 : decode code 759 = .ok (.iadd, 1) := by decide +kernel
theorem d_L_law_760 : decode code 760 = .ok (.iaload, 1) := by decide +kernel
theorem d_L_law_761 : decode code 761 = .ok (.i2l, 1) := by decide +kernel
theorem d_L_law_762 : decode code 762 = .ok (.ldc2_w 89, 3) := by decide +kernel
theorem d_L_law_765 : decode code 765 = .ok (.land, 1) := by decide +kernel
theorem d_L_law_766 : decode code 766 = .ok (.lor, 1) := by decide +kernel
theorem d_L_law_767 : decode code 767 = .ok (.aload_n 0, 1) := by decide +kernel
theorem d_L_law_768 : decode code 768 = .ok (.iload 4, 2) := by decide +kernel
theorem d_L_law_770 : decode code 770 = .ok (.iconst 3, 1) := by decide +kernel
theorem d_L_law_771 : decode code 771 = .ok (.iadd, 1) := by decide +kernel
end
section
theorem d_L_law_772 : decode code 772 = .ok (.iaload, 1) := by decide +kernel
theorem d_L_law_773 : decode code 773 = .ok (.invokevirtual 101, 3) := by decide +kernel
theorem d_L_law_776 : decode code 776 = .ok (.lstore 6, 2) := by decide +kernel
theorem d_L_law_778 : decode code 778 = .ok (.aload_n 2, 1) := by decide +kernel
theorem d_L_law_779 : decode code 779 = .ok (.invokevirtual 67, 3) := by decide +kernel
theorem d_L_law_782 : decode code 782 = .ok (.iload 5, 2) := by decide +kernel
theorem d_L_law_784 : decode code 784 = .ok (.if_icmp .eq 5, 3) := by decide +kernel
theorem d_L_law_787 : decode code 787 = .ok (.iconst 0, 1) := by decide +kernel
theorem d_L_law_788 : decode code 788 = .ok (.ireturn, 1) := by decide +kernel
theorem d_L_law_789 : decode code 789 = .ok (.iload 5, 2) := by decide +kernel
theorem d_L_law_791 : decode code 791 = .ok (.ifCond .ne 14, 3) := by decide +kernel
theorem d_L_law_794 : decode code 794 = .ok (.aload_n 3, 1) := by decide +kernel
theorem d_L_law_795 : decode code 795 = .ok (.iconst 0, 1) := by decide +kernel
theorem d_L_law_796 : decode code 796 = .ok (.laload, 1) := by decide +kernel
theorem d_L_law_797 : decode code 797 = .ok (.lload 6, 2) := by decide +kernel
theorem d_L_law_799 : decode code 799 = .ok (.lcmp, 1) := by decide +kernel
theorem d_L_law_800 : decode code 800 = .ok (.ifCond .eq 5, 3) := by decide +kernel
theorem d_L_law_803 : decode code 803 = .ok (.iconst 0, 1) := by decide +kernel
theorem d_L_law_804 : decode code 804 = .ok (.ireturn, 1) := by decide +kernel
theorem d_L_law_805 : decode code 805 = .ok (.goto 115, 3) := by decide +kernel
theorem d_L_law_808 : decode code 808 = .ok (.aload_n 1, 1) := by decide +kernel
theorem d_L_law_809 : decode code 809 = .ok (.aload_n 0, 1) := by decide +kernel
theorem d_L_law_810 : decode code 810 = .ok (.iload 4, 2) := by decide +kernel
theorem d_L_law_812 : decode code 812 = .ok (.iconst 1, 1) := by decide +kernel
theorem d_L_law_813 : decode code 813 = .ok (.iadd, 1) := by decide +kernel
theorem d_L_law_814 : decode code 814 = .ok (.iaload, 1) := by decide +kernel
theorem d_L_law_815 : decode code 815 = .ok (.aload_n 3, 1) := by decide +kernel
theorem d_L_law_816 : decode code 816 = .ok (.invokestatic 102, 3) := by decide +kernel
theorem d_L_law_819 : decode code 819 = .ok (.istore 5, 2) := by decide +kernel
theorem d_L_law_821 : decode code 821 = .ok (.aload_n 2, 1) := by decide +kernel
theorem d_L_law_822 : decode code 822 = .ok (.aload_n 0, 1) := by decide +kernel
theorem d_L_law_823 : decode code 823 = .ok (.iload 4, 2) := by decide +kernel
theorem d_L_law_825 : decode code 825 = .ok (.iconst 1, 1) := by decide +kernel
theorem d_L_law_826 : decode code 826 = .ok (.iadd, 1) := by decide +kernel
theorem d_L_law_827 : decode code 827 = .ok (.iaload, 1) := by decide +kernel
theorem d_L_law_828 : decode code 828 = .ok (.invokevirtual 105, 3) := by decide +kernel
theorem d_L_law_831 : decode code 831 = .ok (.istore 6, 2) := by decide +kernel
theorem d_L_law_833 : decode code 833 = .ok (.aload_n 2, 1) := by decide +kernel
theorem d_L_law_834 : decode code 834 = .ok (.invokevirtual 67, 3) := by decide +kernel
theorem d_L_law_837 : decode code 837 = .ok (.iload 5, 2) := by decide +kernel
theorem d_L_law_839 : decode code 839 = .ok (.if_icmp .eq 5, 3) := by decide +kernel
theorem d_L_law_842 : decode code 842 = .ok (.iconst 0, 1) := by decide +kernel
theorem d_L_law_843 : decode code 843 = .ok (.ireturn, 1) := by decide +kernel
theorem d_L_law_844 : decode code 844 = .ok (.iload 5, 2) := by decide +kernel
theorem d_L_law_846 : decode code 846 = .ok (.ifCond .ne 15, 3) := by decide +kernel
theorem d_L_law_849 : decode code 849 = .ok (.aload_n 3, 1) := by decide +kernel
theorem d_L_law_850 : decode code 850 = .ok (.iconst 0, 1) := by decide +kernel
theorem d_L_law_851 : decode code 851 = .ok (.laload, 1) := by decide +kernel
theorem d_L_law_852 : decode code 852 = .ok (.iload 6, 2) := by decide +kernel
theorem d_L_law_854 : decode code 854 = .ok (.i2l, 1) := by decide +kernel
theorem d_L_law_855 : decode code 855 = .ok (.lcmp, 1) := by decide +kernel
theorem d_L_law_856 : decode code 856 = .ok (.ifCond .eq 5, 3) := by decide +kernel
theorem d_L_law_859 : decode code 859 = .ok (.iconst 0, 1) := by decide +kernel
theorem d_L_law_860 : decode code 860 = .ok (.ireturn, 1) := by decide +kernel
theorem d_L_law_861 : decode code 861 = .ok (.goto 59, 3) := by decide +kernel
theorem d_L_law_864 : decode code 864 = .ok (.aload_n 1, 1) := by decide +kernel
theorem d_L_law_865 : decode code 865 = .ok (.aload_n 0, 1) := by decide +kernel
theorem d_L_law_866 : decode code 866 = .ok (.iload 4, 2) := by decide +kernel
theorem d_L_law_868 : decode code 868 = .ok (.iconst 1, 1) := by decide +kernel
theorem d_L_law_869 : decode code 869 = .ok (.iadd, 1) := by decide +kernel
theorem d_L_law_870 : decode code 870 = .ok (.iaload, 1) := by decide +kernel
theorem d_L_law_871 : decode code 871 = .ok (.aload_n 3, 1) := by decide +kernel
theorem d_L_law_872 : decode code 872 = .ok (.invokestatic 106, 3) := by decide +kernel
theorem d_L_law_875 : decode code 875 = .ok (.istore 5, 2) := by decide +kernel
theorem d_L_law_877 : decode code 877 = .ok (.aload_n 2, 1) := by decide +kernel
theorem d_L_law_878 : decode code 878 = .ok (.aload_n 0, 1) := by decide +kernel
theorem d_L_law_879 : decode code 879 = .ok (.iload 4, 2) := by decide +kernel
theorem d_L_law_881 : decode code 881 = .ok (.iconst 1, 1) := by decide +kernel
theorem d_L_law_882 : decode code 882 = .ok (.iadd, 1) := by decide +kernel
theorem d_L_law_883 : decode code 883 = .ok (.iaload, 1) := by decide +kernel
theorem d_L_law_884 : decode code 884 = .ok (.invokevirtual 108, 3) := by decide +kernel
theorem d_L_law_887 : decode code 887 = .ok (.istore 6, 2) := by decide +kernel
theorem d_L_law_889 : decode code 889 = .ok (.aload_n 2, 1) := by decide +kernel
theorem d_L_law_890 : decode code 890 = .ok (.invokevirtual 67, 3) := by decide +kernel
theorem d_L_law_893 : decode code 893 = .ok (.iload 5, 2) := by decide +kernel
theorem d_L_law_895 : decode code 895 = .ok (.if_icmp .eq 5, 3) := by decide +kernel
theorem d_L_law_898 : decode code 898 = .ok (.iconst 0, 1) := by decide +kernel
theorem d_L_law_899 : decode code 899 = .ok (.ireturn, 1) := by decide +kernel
theorem d_L_law_900 : decode code 900 = .ok (.iload 5, 2) := by decide +kernel
theorem d_L_law_902 : decode code 902 = .ok (.ifCond .ne 15, 3) := by decide +kernel
theorem d_L_law_905 : decode code 905 = .ok (.aload_n 3, 1) := by decide +kernel
theorem d_L_law_906 : decode code 906 = .ok (.iconst 0, 1) := by decide +kernel
theorem d_L_law_907 : decode code 907 = .ok (.laload, 1) := by decide +kernel
theorem d_L_law_908 : decode code 908 = .ok (.iload 6, 2) := by decide +kernel
theorem d_L_law_910 : decode code 910 = .ok (.i2l, 1) := by decide +kernel
theorem d_L_law_911 : decode code 911 = .ok (.lcmp, 1) := by decide +kernel
theorem d_L_law_912 : decode code 912 = .ok (.ifCond .eq 5, 3) := by decide +kernel
theorem d_L_law_915 : decode code 915 = .ok (.iconst 0, 1) := by decide +kernel
theorem d_L_law_916 : decode code 916 = .ok (.ireturn, 1) := by decide +kernel
theorem d_L_law_917 : decode code 917 = .ok (.goto 3, 3) := by decide +kernel
theorem d_L_law_920 : decode code 920 = .ok (.iinc 4 5, 3) := by decide +kernel
theorem d_L_law_923 : decode code 923 = .ok (.goto (-870), 3) := by decide +kernel
theorem d_L_law_926 : decode code 926 = .ok (.iconst 1, 1) := by decide +kernel
theorem d_L_law_927 : decode code 927 = .ok (.ireturn, 1) := by decide +kernel
end
section
theorem d_M_init_0 : decode b_M_init 0 = .ok (.aload_n 0, 1) := by decide +kernel
theorem d_M_init_1 : decode b_M_init 1 = .ok (.invokespecial 1, 3) := by decide +kernel
theorem d_M_init_4 : decode b_M_init 4 = .ok (.aload_n 0, 1) := by decide +kernel
theorem d_M_init_5 : decode b_M_init 5 = .ok (.iconst 3, 1) := by decide +kernel
theorem d_M_init_6 : decode b_M_init 6 = .ok (.newarray .int, 2) := by decide +kernel
theorem d_M_init_8 : decode b_M_init 8 = .ok (.putfield 7, 3) := by decide +kernel
theorem d_M_init_11 : decode b_M_init 11 = .ok (.aload_n 0, 1) := by decide +kernel
theorem d_M_init_12 : decode b_M_init 12 = .ok (.iconst 3, 1) := by decide +kernel
theorem d_M_init_13 : decode b_M_init 13 = .ok (.newarray .int, 2) := by decide +kernel
theorem d_M_init_15 : decode b_M_init 15 = .ok (.putfield 13, 3) := by decide +kernel
theorem d_M_init_18 : decode b_M_init 18 = .ok (.aload_n 0, 1) := by decide +kernel
theorem d_M_init_19 : decode b_M_init 19 = .ok (.iconst 3, 1) := by decide +kernel
theorem d_M_init_20 : decode b_M_init 20 = .ok (.newarray .int, 2) := by decide +kernel
theorem d_M_init_22 : decode b_M_init 22 = .ok (.putfield 16, 3) := by decide +kernel
theorem d_M_init_25 : decode b_M_init 25 = .ok (.aload_n 0, 1) := by decide +kernel
theorem d_M_init_26 : decode b_M_init 26 = .ok (.bipush 6, 2) := by decide +kernel
theorem d_M_init_28 : decode b_M_init 28 = .ok (.newarray .int, 2) := by decide +kernel
theorem d_M_init_30 : decode b_M_init 30 = .ok (.putfield 19, 3) := by decide +kernel
theorem d_M_init_33 : decode b_M_init 33 = .ok (.aload_n 0, 1) := by decide +kernel
theorem d_M_init_34 : decode b_M_init 34 = .ok (.sipush 243, 3) := by decide +kernel
theorem d_M_init_37 : decode b_M_init 37 = .ok (.newarray .long, 2) := by decide +kernel
theorem d_M_init_39 : decode b_M_init 39 = .ok (.putfield 22, 3) := by decide +kernel
theorem d_M_init_42 : decode b_M_init 42 = .ok (.aload_n 0, 1) := by decide +kernel
theorem d_M_init_43 : decode b_M_init 43 = .ok (.sipush 243, 3) := by decide +kernel
theorem d_M_init_46 : decode b_M_init 46 = .ok (.newarray .long, 2) := by decide +kernel
theorem d_M_init_48 : decode b_M_init 48 = .ok (.putfield 26, 3) := by decide +kernel
theorem d_M_init_51 : decode b_M_init 51 = .ok (.aload_n 0, 1) := by decide +kernel
theorem d_M_init_52 : decode b_M_init 52 = .ok (.sipush 500, 3) := by decide +kernel
theorem d_M_init_55 : decode b_M_init 55 = .ok (.newarray .long, 2) := by decide +kernel
theorem d_M_init_57 : decode b_M_init 57 = .ok (.putfield 29, 3) := by decide +kernel
theorem d_M_init_60 : decode b_M_init 60 = .ok (.aload_n 0, 1) := by decide +kernel
theorem d_M_init_61 : decode b_M_init 61 = .ok (.sipush 500, 3) := by decide +kernel
theorem d_M_init_64 : decode b_M_init 64 = .ok (.newarray .int, 2) := by decide +kernel
theorem d_M_init_66 : decode b_M_init 66 = .ok (.putfield 32, 3) := by decide +kernel
theorem d_M_init_69 : decode b_M_init 69 = .ok (.aload_n 0, 1) := by decide +kernel
theorem d_M_init_70 : decode b_M_init 70 = .ok (.sipush 500, 3) := by decide +kernel
theorem d_M_init_73 : decode b_M_init 73 = .ok (.newarray .int, 2) := by decide +kernel
theorem d_M_init_75 : decode b_M_init 75 = .ok (.putfield 35, 3) := by decide +kernel
theorem d_M_init_78 : decode b_M_init 78 = .ok (.aload_n 0, 1) := by decide +kernel
theorem d_M_init_79 : decode b_M_init 79 = .ok (.sipush 500, 3) := by decide +kernel
theorem d_M_init_82 : decode b_M_init 82 = .ok (.newarray .int, 2) := by decide +kernel
theorem d_M_init_84 : decode b_M_init 84 = .ok (.putfield 38, 3) := by decide +kernel
theorem d_M_init_87 : decode b_M_init 87 = .ok (.aload_n 0, 1) := by decide +kernel
theorem d_M_init_88 : decode b_M_init 88 = .ok (.getfield 7, 3) := by decide +kernel
theorem d_M_init_91 : decode b_M_init 91 = .ok (.iconst 0, 1) := by decide +kernel
theorem d_M_init_92 : decode b_M_init 92 = .ok (.iload_n 1, 1) := by decide +kernel
theorem d_M_init_93 : decode b_M_init 93 = .ok (.iconst 1, 1) := by decide +kernel
theorem d_M_init_94 : decode b_M_init 94 = .ok (.if_icmp .ge 7, 3) := by decide +kernel
theorem d_M_init_97 : decode b_M_init 97 = .ok (.iconst 1, 1) := by decide +kernel
theorem d_M_init_98 : decode b_M_init 98 = .ok (.goto 17, 3) := by decide +kernel
theorem d_M_init_101 : decode b_M_init 101 = .ok (.iload_n 1, 1) := by decide +kernel
theorem d_M_init_102 : decode b_M_init 102 = .ok (.sipush 1000, 3) := by decide +kernel
theorem d_M_init_105 : decode b_M_init 105 = .ok (.if_icmp .le 9, 3) := by decide +kernel
theorem d_M_init_108 : decode b_M_init 108 = .ok (.sipush 1000, 3) := by decide +kernel
theorem d_M_init_111 : decode b_M_init 111 = .ok (.goto 4, 3) := by decide +kernel
theorem d_M_init_114 : decode b_M_init 114 = .ok (.iload_n 1, 1) := by decide +kernel
theorem d_M_init_115 : decode b_M_init 115 = .ok (.iastore, 1) := by decide +kernel
theorem d_M_init_116 : decode b_M_init 116 = .ok (.aload_n 0, 1) := by decide +kernel
theorem d_M_init_117 : decode b_M_init 117 = .ok (.getfield 7, 3) := by decide +kernel
theorem d_M_init_120 : decode b_M_init 120 = .ok (.iconst 1, 1) := by decide +kernel
theorem d_M_init_121 : decode b_M_init 121 = .ok (.iload_n 2, 1) := by decide +kernel
theorem d_M_init_122 : decode b_M_init 122 = .ok (.iconst 1, 1) := by decide +kernel
theorem d_M_init_123 : decode b_M_init 123 = .ok (.if_icmp .ge 7, 3) := by decide +kernel
theorem d_M_init_126 : decode b_M_init 126 = .ok (.iconst 1, 1) := by decide +kernel
theorem d_M_init_127 : decode b_M_init 127 = .ok (.goto 17, 3) := by decide +kernel
theorem d_M_init_130 : decode b_M_init 130 = .ok (.iload_n 2, 1) := by decide +kernel
theorem d_M_init_131 : decode b_M_init 131 = .ok (.sipush 1000, 3) := by decide +kernel
theorem d_M_init_134 : decode b_M_init 134 = .ok (.if_icmp .le 9, 3) := by decide +kernel
theorem d_M_init_137 : decode b_M_init 137 = .ok (.sipush 1000, 3) := by decide +kernel
theorem d_M_init_140 : decode b_M_init 140 = .ok (.goto 4, 3) := by decide +kernel
theorem d_M_init_143 : decode b_M_init 143 = .ok (.iload_n 2, 1) := by decide +kernel
theorem d_M_init_144 : decode b_M_init 144 = .ok (.iastore, 1) := by decide +kernel
theorem d_M_init_145 : decode b_M_init 145 = .ok (.aload_n 0, 1) := by decide +kernel
theorem d_M_init_146 : decode b_M_init 146 = .ok (.getfield 7, 3) := by decide +kernel
theorem d_M_init_149 : decode b_M_init 149 = .ok (.iconst 2, 1) := by decide +kernel
theorem d_M_init_150 : decode b_M_init 150 = .ok (.iload_n 3, 1) := by decide +kernel
theorem d_M_init_151 : decode b_M_init 151 = .ok (.iconst 1, 1) := by decide +kernel
theorem d_M_init_152 : decode b_M_init 152 = .ok (.if_icmp .ge 7, 3) := by decide +kernel
theorem d_M_init_155 : decode b_M_init 155 = .ok (.iconst 1, 1) := by decide +kernel
theorem d_M_init_156 : decode b_M_init 156 = .ok (.goto 17, 3) := by decide +kernel
theorem d_M_init_159 : decode b_M_init 159 = .ok (.iload_n 3, 1) := by decide +kernel
theorem d_M_init_160 : decode b_M_init 160 = .ok (.sipush 1000, 3) := by decide +kernel
theorem d_M_init_163 : decode b_M_init 163 = .ok (.if_icmp .le 9, 3) := by decide +kernel
theorem d_M_init_166 : decode b_M_init 166 = .ok (.sipush 1000, 3) := by decide +kernel
theorem d_M_init_169 : decode b_M_init 169 = .ok (.goto 4, 3) := by decide +kernel
theorem d_M_init_172 : decode b_M_init 172 = .ok (.iload_n 3, 1) := by decide +kernel
theorem d_M_init_173 : decode b_M_init 173 = .ok (.iastore, 1) := by decide +kernel
theorem d_M_init_174 : decode b_M_init 174 = .ok (.iconst 0, 1) := by decide +kernel
theorem d_M_init_175 : decode b_M_init 175 = .ok (.istore 4, 2) := by decide +kernel
theorem d_M_init_177 : decode b_M_init 177 = .ok (.iload 4, 2) := by decide +kernel
theorem d_M_init_179 : decode b_M_init 179 = .ok (.bipush 6, 2) := by decide +kernel
theorem d_M_init_181 : decode b_M_init 181 = .ok (.if_icmp .ge 19, 3) := by decide +kernel
theorem d_M_init_184 : decode b_M_init 184 = .ok (.aload_n 0, 1) := by decide +kernel
theorem d_M_init_185 : decode b_M_init 185 = .ok (.getfield 19, 3) := by decide +kernel
theorem d_M_init_188 : decode b_M_init 188 = .ok (.iload 4, 2) := by decide +kernel
theorem d_M_init_190 : decode b_M_init 190 = .ok (.sipush 900, 3) := by decide +kernel
theorem d_M_init_193 : decode b_M_init 193 = .ok (.iastore, 1) := by decide +kernel
theorem d_M_init_194 : decode b_M_init 194 = .ok (.iinc 4 1, 3) := by decide +kernel
theorem d_M_init_197 : decode b_M_init 197 = .ok (.goto (-20), 3) := by decide +kernel
theorem d_M_init_200 : decode b_M_init 200 = .ok (.return_, 1) := by decide +kernel
theorem d_M_thrown_0 : decode b_M_thrown 0 = .ok (.aload_n 0, 1) := by decide +kernel
theorem d_M_thrown_1 : decode b_M_thrown 1 = .ok (.getfield 41, 3) := by decide +kernel
theorem d_M_thrown_4 : decode b_M_thrown 4 = .ok (.ireturn, 1) := by decide +kernel
theorem d_M_in_0 : decode b_M_in 0 = .ok (.lload_n 0, 1) := by decide +kernel
theorem d_M_in_1 : decode b_M_in 1 = .ok (.lload_n 2, 1) := by decide +kernel
theorem d_M_in_2 : decode b_M_in 2 = .ok (.lcmp, 1) := by decide +kernel
theorem d_M_in_3 : decode b_M_in 3 = .ok (.ifCond .lt 14, 3) := by decide +kernel
theorem d_M_in_6 : decode b_M_in 6 = .ok (.lload_n 0, 1) := by decide +kernel
theorem d_M_in_7 : decode b_M_in 7 = .ok (.lload 4, 2) := by decide +kernel
theorem d_M_in_9 : decode b_M_in 9 = .ok (.lcmp, 1) := by decide +kernel
theorem d_M_in_10 : decode b_M_in 10 = .ok (.ifCond .gt 7, 3) := by decide +kernel
theorem d_M_in_13 : decode b_M_in 13 = .ok (.iconst 1, 1) := by decide +kernel
theorem d_M_in_14 : decode b_M_in 14 = .ok (.goto 4, 3) := by decide +kernel
theorem d_M_in_17 : decode b_M_in 17 = .ok (.iconst 0, 1) := by decide +kernel
theorem d_M_in_18 : decode b_M_in 18 = .ok (.ireturn, 1) := by decide +kernel
theorem d_M_isPoint_0 : decode b_M_isPoint 0 = .ok (.iload_n 1, 1) := by decide +kernel
theorem d_M_isPoint_1 : decode b_M_isPoint 1 = .ok (.i2l, 1) := by decide +kernel
theorem d_M_isPoint_2 : decode b_M_isPoint 2 = .ok (.lconst 0, 1) := by decide +kernel
theorem d_M_isPoint_3 : decode b_M_isPoint 3 = .ok (.aload_n 0, 1) := by decide +kernel
theorem d_M_isPoint_4 : decode b_M_isPoint 4 = .ok (.getfield 7, 3) := by decide +kernel
theorem d_M_isPoint_7 : decode b_M_isPoint 7 = .ok (.iconst 0, 1) := by decide +kernel
theorem d_M_isPoint_8 : decode b_M_isPoint 8 = .ok (.iaload, 1) := by decide +kernel
theorem d_M_isPoint_9 : decode b_M_isPoint 9 = .ok (.i2l, 1) := by decide +kernel
theorem d_M_isPoint_10 : decode b_M_isPoint 10 = .ok (.invokestatic 45, 3) := by decide +kernel
theorem d_M_isPoint_13 : decode b_M_isPoint 13 = .ok (.ifCond .eq 39, 3) := by decide +kernel
theorem d_M_isPoint_16 : decode b_M_isPoint 16 = .ok (.iload_n 2, 1) := by decide +kernel
theorem d_M_isPoint_17 : decode b_M_isPoint 17 = .ok (.i2l, 1) := by decide +kernel
theorem d_M_isPoint_18 : decode b_M_isPoint 18 = .ok (.lconst 0, 1) := by decide +kernel
theorem d_M_isPoint_19 : decode b_M_isPoint 19 = .ok (.aload_n 0, 1) := by decide +kernel
theorem d_M_isPoint_20 : decode b_M_isPoint 20 = .ok (.getfield 7, 3) := by decide +kernel
theorem d_M_isPoint_23 : decode b_M_isPoint 23 = .ok (.iconst 1, 1) := by decide +kernel
theorem d_M_isPoint_24 : decode b_M_isPoint 24 = .ok (.iaload, 1) := by decide +kernel
theorem d_M_isPoint_25 : decode b_M_isPoint 25 = .ok (.i2l, 1) := by decide +kernel
theorem d_M_isPoint_26 : decode b_M_isPoint 26 = .ok (.invokestatic 45, 3) := by decide +kernel
theorem d_M_isPoint_29 : decode b_M_isPoint 29 = .ok (.ifCond .eq 23, 3) := by decide +kernel
theorem d_M_isPoint_32 : decode b_M_isPoint 32 = .ok (.iload_n 3, 1) := by decide +kernel
theorem d_M_isPoint_33 : decode b_M_isPoint 33 = .ok (.i2l, 1) := by decide +kernel
theorem d_M_isPoint_34 : decode b_M_isPoint 34 = .ok (.lconst 0, 1) := by decide +kernel
theorem d_M_isPoint_35 : decode b_M_isPoint 35 = .ok (.aload_n 0, 1) := by decide +kernel
theorem d_M_isPoint_36 : decode b_M_isPoint 36 = .ok (.getfield 7, 3) := by decide +kernel
theorem d_M_isPoint_39 : decode b_M_isPoint 39 = .ok (.iconst 2, 1) := by decide +kernel
theorem d_M_isPoint_40 : decode b_M_isPoint 40 = .ok (.iaload, 1) := by decide +kernel
theorem d_M_isPoint_41 : decode b_M_isPoint 41 = .ok (.i2l, 1) := by decide +kernel
theorem d_M_isPoint_42 : decode b_M_isPoint 42 = .ok (.invokestatic 45, 3) := by decide +kernel
theorem d_M_isPoint_45 : decode b_M_isPoint 45 = .ok (.ifCond .eq 7, 3) := by decide +kernel
theorem d_M_isPoint_48 : decode b_M_isPoint 48 = .ok (.iconst 1, 1) := by decide +kernel
theorem d_M_isPoint_49 : decode b_M_isPoint 49 = .ok (.goto 4, 3) := by decide +kernel
theorem d_M_isPoint_52 : decode b_M_isPoint 52 = .ok (.iconst 0, 1) := by decide +kernel
theorem d_M_isPoint_53 : decode b_M_isPoint 53 = .ok (.ireturn, 1) := by decide +kernel
theorem d_M_source_0 : decode b_M_source 0 = .ok (.aload_n 0, 1) := by decide +kernel
theorem d_M_source_1 : decode b_M_source 1 = .ok (.aload_n 0, 1) := by decide +kernel
theorem d_M_source_2 : decode b_M_source 2 = .ok (.iload_n 1, 1) := by decide +kernel
theorem d_M_source_3 : decode b_M_source 3 = .ok (.iload_n 2, 1) := by decide +kernel
theorem d_M_source_4 : decode b_M_source 4 = .ok (.iload_n 3, 1) := by decide +kernel
theorem d_M_source_5 : decode b_M_source 5 = .ok (.invokevirtual 49, 3) := by decide +kernel
theorem d_M_source_8 : decode b_M_source 8 = .ok (.ifCond .eq 7, 3) := by decide +kernel
theorem d_M_source_11 : decode b_M_source 11 = .ok (.iconst 0, 1) := by decide +kernel
theorem d_M_source_12 : decode b_M_source 12 = .ok (.goto 4, 3) := by decide +kernel
theorem d_M_source_15 : decode b_M_source 15 = .ok (.iconst 1, 1) := by decide +kernel
theorem d_M_source_16 : decode b_M_source 16 = .ok (.putfield 41, 3) := by decide +kernel
theorem d_M_source_19 : decode b_M_source 19 = .ok (.aload_n 0, 1) := by decide +kernel
theorem d_M_source_20 : decode b_M_source 20 = .ok (.getfield 41, 3) := by decide +kernel
theorem d_M_source_23 : decode b_M_source 23 = .ok (.ifCond .ne 29, 3) := by decide +kernel
theorem d_M_source_26 : decode b_M_source 26 = .ok (.aload_n 0, 1) := by decide +kernel
theorem d_M_source_27 : decode b_M_source 27 = .ok (.getfield 13, 3) := by decide +kernel
theorem d_M_source_30 : decode b_M_source 30 = .ok (.iconst 0, 1) := by decide +kernel
theorem d_M_source_31 : decode b_M_source 31 = .ok (.iload_n 1, 1) := by decide +kernel
theorem d_M_source_32 : decode b_M_source 32 = .ok (.iastore, 1) := by decide +kernel
theorem d_M_source_33 : decode b_M_source 33 = .ok (.aload_n 0, 1) := by decide +kernel
theorem d_M_source_34 : decode b_M_source 34 = .ok (.getfield 13, 3) := by decide +kernel
theorem d_M_source_37 : decode b_M_source 37 = .ok (.iconst 1, 1) := by decide +kernel
theorem d_M_source_38 : decode b_M_source 38 = .ok (.iload_n 2, 1) := by decide +kernel
theorem d_M_source_39 : decode b_M_source 39 = .ok (.iastore, 1) := by decide +kernel
theorem d_M_source_40 : decode b_M_source 40 = .ok (.aload_n 0, 1) := by decide +kernel
theorem d_M_source_41 : decode b_M_source 41 = .ok (.getfield 13, 3) := by decide +kernel
theorem d_M_source_44 : decode b_M_source 44 = .ok (.iconst 2, 1) := by decide +kernel
theorem d_M_source_45 : decode b_M_source 45 = .ok (.iload_n 3, 1) := by decide +kernel
theorem d_M_source_46 : decode b_M_source 46 = .ok (.iastore, 1) := by decide +kernel
theorem d_M_source_47 : decode b_M_source 47 = .ok (.aload_n 0, 1) := by decide +kernel
theorem d_M_source_48 : decode b_M_source 48 = .ok (.iconst 0, 1) := by decide +kernel
theorem d_M_source_49 : decode b_M_source 49 = .ok (.putfield 53, 3) := by decide +kernel
theorem d_M_source_52 : decode b_M_source 52 = .ok (.return_, 1) := by decide +kernel
theorem d_M_listener_0 : decode b_M_listener 0 = .ok (.aload_n 0, 1) := by decide +kernel
theorem d_M_listener_1 : decode b_M_listener 1 = .ok (.aload_n 0, 1) := by decide +kernel
theorem d_M_listener_2 : decode b_M_listener 2 = .ok (.iload_n 1, 1) := by decide +kernel
theorem d_M_listener_3 : decode b_M_listener 3 = .ok (.iload_n 2, 1) := by decide +kernel
theorem d_M_listener_4 : decode b_M_listener 4 = .ok (.iload_n 3, 1) := by decide +kernel
theorem d_M_listener_5 : decode b_M_listener 5 = .ok (.invokevirtual 49, 3) := by decide +kernel
theorem d_M_listener_8 : decode b_M_listener 8 = .ok (.ifCond .eq 7, 3) := by decide +kernel
theorem d_M_listener_11 : decode b_M_listener 11 = .ok (.iconst 0, 1) := by decide +kernel
theorem d_M_listener_12 : decode b_M_listener 12 = .ok (.goto 4, 3) := by decide +kernel
theorem d_M_listener_15 : decode b_M_listener 15 = .ok (.iconst 1, 1) := by decide +kernel
theorem d_M_listener_16 : decode b_M_listener 16 = .ok (.putfield 41, 3) := by decide +kernel
theorem d_M_listener_19 : decode b_M_listener 19 = .ok (.aload_n 0, 1) := by decide +kernel
theorem d_M_listener_20 : decode b_M_listener 20 = .ok (.getfield 41, 3) := by decide +kernel
theorem d_M_listener_23 : decode b_M_listener 23 = .ok (.ifCond .ne 29, 3) := by decide +kernel
theorem d_M_listener_26 : decode b_M_listener 26 = .ok (.aload_n 0, 1) := by decide +kernel
theorem d_M_listener_27 : decode b_M_listener 27 = .ok (.getfield 16, 3) := by decide +kernel
theorem d_M_listener_30 : decode b_M_listener 30 = .ok (.iconst 0, 1) := by decide +kernel
theorem d_M_listener_31 : decode b_M_listener 31 = .ok (.iload_n 1, 1) := by decide +kernel
theorem d_M_listener_32 : decode b_M_listener 32 = .ok (.iastore, 1) := by decide +kernel
theorem d_M_listener_33 : decode b_M_listener 33 = .ok (.aload_n 0, 1) := by decide +kernel
theorem d_M_listener_34 : decode b_M_listener 34 = .ok (.getfield 16, 3) := by decide +kernel
theorem d_M_listener_37 : decode b_M_listener 37 = .ok (.iconst 1, 1) := by decide +kernel
theorem d_M_listener_38 : decode b_M_listener 38 = .ok (.iload_n 2, 1) := by decide +kernel
theorem d_M_listener_39 : decode b_M_listener 39 = .ok (.iastore, 1) := by decide +kernel
theorem d_M_listener_40 : decode b_M_listener 40 = .ok (.aload_n 0, 1) := by decide +kernel
theorem d_M_listener_41 : decode b_M_listener 41 = .ok (.getfield 16, 3) := by decide +kernel
theorem d_M_listener_44 : decode b_M_listener 44 = .ok (.iconst 2, 1) := by decide +kernel
theorem d_M_listener_45 : decode b_M_listener 45 = .ok (.iload_n 3, 1) := by decide +kernel
theorem d_M_listener_46 : decode b_M_listener 46 = .ok (.iastore, 1) := by decide +kernel
theorem d_M_listener_47 : decode b_M_listener 47 = .ok (.aload_n 0, 1) := by decide +kernel
theorem d_M_listener_48 : decode b_M_listener 48 = .ok (.iconst 0, 1) := by decide +kernel
theorem d_M_listener_49 : decode b_M_listener 49 = .ok (.putfield 53, 3) := by decide +kernel
theorem d_M_listener_52 : decode b_M_listener 52 = .ok (.return_, 1) := by decide +kernel
theorem d_M_keeps_0 : decode b_M_keeps 0 = .ok (.aload_n 0, 1) := by decide +kernel
theorem d_M_keeps_1 : decode b_M_keeps 1 = .ok (.iload_n 1, 1) := by decide +kernel
theorem d_M_keeps_2 : decode b_M_keeps 2 = .ok (.i2l, 1) := by decide +kernel
theorem d_M_keeps_3 : decode b_M_keeps 3 = .ok (.lconst 0, 1) := by decide +kernel
theorem d_M_keeps_4 : decode b_M_keeps 4 = .ok (.ldc2_w 57, 3) := by decide +kernel
theorem d_M_keeps_7 : decode b_M_keeps 7 = .ok (.invokestatic 45, 3) := by decide +kernel
theorem d_M_keeps_10 : decode b_M_keeps 10 = .ok (.ifCond .eq 19, 3) := by decide +kernel
theorem d_M_keeps_13 : decode b_M_keeps 13 = .ok (.iload_n 2, 1) := by decide +kernel
theorem d_M_keeps_14 : decode b_M_keeps 14 = .ok (.i2l, 1) := by decide +kernel
theorem d_M_keeps_15 : decode b_M_keeps 15 = .ok (.lconst 0, 1) := by decide +kernel
theorem d_M_keeps_16 : decode b_M_keeps 16 = .ok (.ldc2_w 59, 3) := by decide +kernel
theorem d_M_keeps_19 : decode b_M_keeps 19 = .ok (.invokestatic 45, 3) := by decide +kernel
theorem d_M_keeps_22 : decode b_M_keeps 22 = .ok (.ifCond .eq 7, 3) := by decide +kernel
theorem d_M_keeps_25 : decode b_M_keeps 25 = .ok (.iconst 0, 1) := by decide +kernel
theorem d_M_keeps_26 : decode b_M_keeps 26 = .ok (.goto 4, 3) := by decide +kernel
theorem d_M_keeps_29 : decode b_M_keeps 29 = .ok (.iconst 1, 1) := by decide +kernel
theorem d_M_keeps_30 : decode b_M_keeps 30 = .ok (.putfield 41, 3) := by decide +kernel
theorem d_M_keeps_33 : decode b_M_keeps 33 = .ok (.aload_n 0, 1) := by decide +kernel
theorem d_M_keeps_34 : decode b_M_keeps 34 = .ok (.getfield 41, 3) := by decide +kernel
theorem d_M_keeps_37 : decode b_M_keeps 37 = .ok (.ifCond .le 5, 3) := by decide +kernel
theorem d_M_keeps_40 : decode b_M_keeps 40 = .ok (.iconst 0, 1) := by decide +kernel
theorem d_M_keeps_41 : decode b_M_keeps 41 = .ok (.ireturn, 1) := by decide +kernel
theorem d_M_keeps_42 : decode b_M_keeps 42 = .ok (.aload_n 0, 1) := by decide +kernel
theorem d_M_keeps_43 : decode b_M_keeps 43 = .ok (.getfield 19, 3) := by decide +kernel
theorem d_M_keeps_46 : decode b_M_keeps 46 = .ok (.iload_n 1, 1) := by decide +kernel
theorem d_M_keeps_47 : decode b_M_keeps 47 = .ok (.iaload, 1) := by decide +kernel
theorem d_M_keeps_48 : decode b_M_keeps 48 = .ok (.istore_n 3, 1) := by decide +kernel
theorem d_M_keeps_49 : decode b_M_keeps 49 = .ok (.aload_n 0, 1) := by decide +kernel
theorem d_M_keeps_50 : decode b_M_keeps 50 = .ok (.getfield 19, 3) := by decide +kernel
theorem d_M_keeps_53 : decode b_M_keeps 53 = .ok (.iload_n 1, 1) := by decide +kernel
theorem d_M_keeps_54 : decode b_M_keeps 54 = .ok (.iload_n 2, 1) := by decide +kernel
theorem d_M_keeps_55 : decode b_M_keeps 55 = .ok (.iastore, 1) := by decide +kernel
theorem d_M_keeps_56 : decode b_M_keeps 56 = .ok (.iload_n 3, 1) := by decide +kernel
theorem d_M_keeps_57 : decode b_M_keeps 57 = .ok (.ireturn, 1) := by decide +kernel
theorem d_M_square_0 : decode b_M_square 0 = .ok (.iload_n 2, 1) := by decide +kernel
theorem d_M_square_1 : decode b_M_square 1 = .ok (.i2l, 1) := by decide +kernel
theorem d_M_square_2 : decode b_M_square 2 = .ok (.aload_n 0, 1) := by decide +kernel
theorem d_M_square_3 : decode b_M_square 3 = .ok (.getfield 7, 3) := by decide +kernel
theorem d_M_square_6 : decode b_M_square 6 = .ok (.iload_n 1, 1) := by decide +kernel
theorem d_M_square_7 : decode b_M_square 7 = .ok (.iaload, 1) := by decide +kernel
theorem d_M_square_8 : decode b_M_square 8 = .ok (.i2l, 1) := by decide +kernel
theorem d_M_square_9 : decode b_M_square 9 = .ok (.lmul, 1) := by decide +kernel
theorem d_M_square_10 : decode b_M_square 10 = .ok (.iload_n 2, 1) := by decide +kernel
theorem d_M_square_11 : decode b_M_square 11 = .ok (.iconst 2, 1) := by decide +kernel
theorem d_M_square_12 : decode b_M_square 12 = .ok (.irem, 1) := by decide +kernel
theorem d_M_square_13 : decode b_M_square 13 = .ok (.ifCond .ne 12, 3) := by decide +kernel
theorem d_M_square_16 : decode b_M_square 16 = .ok (.aload_n 0, 1) := by decide +kernel
theorem d_M_square_17 : decode b_M_square 17 = .ok (.getfield 13, 3) := by decide +kernel
theorem d_M_square_20 : decode b_M_square 20 = .ok (.iload_n 1, 1) := by decide +kernel
theorem d_M_square_21 : decode b_M_square 21 = .ok (.iaload, 1) := by decide +kernel
theorem d_M_square_22 : decode b_M_square 22 = .ok (.goto 16, 3) := by decide +kernel
theorem d_M_square_25 : decode b_M_square 25 = .ok (.aload_n 0, 1) := by decide +kernel
theorem d_M_square_26 : decode b_M_square 26 = .ok (.getfield 7, 3) := by decide +kernel
theorem d_M_square_29 : decode b_M_square 29 = .ok (.iload_n 1, 1) := by decide +kernel
theorem d_M_square_30 : decode b_M_square 30 = .ok (.iaload, 1) := by decide +kernel
theorem d_M_square_31 : decode b_M_square 31 = .ok (.aload_n 0, 1) := by decide +kernel
theorem d_M_square_32 : decode b_M_square 32 = .ok (.getfield 13, 3) := by decide +kernel
theorem d_M_square_35 : decode b_M_square 35 = .ok (.iload_n 1, 1) := by decide +kernel
theorem d_M_square_36 : decode b_M_square 36 = .ok (.iaload, 1) := by decide +kernel
theorem d_M_square_37 : decode b_M_square 37 = .ok (.isub, 1) := by decide +kernel
theorem d_M_square_38 : decode b_M_square 38 = .ok (.i2l, 1) := by decide +kernel
theorem d_M_square_39 : decode b_M_square 39 = .ok (.ladd, 1) := by decide +kernel
theorem d_M_square_40 : decode b_M_square 40 = .ok (.lstore_n 3, 1) := by decide +kernel
theorem d_M_square_41 : decode b_M_square 41 = .ok (.lload_n 3, 1) := by decide +kernel
theorem d_M_square_42 : decode b_M_square 42 = .ok (.aload_n 0, 1) := by decide +kernel
theorem d_M_square_43 : decode b_M_square 43 = .ok (.getfield 16, 3) := by decide +kernel
theorem d_M_square_46 : decode b_M_square 46 = .ok (.iload_n 1, 1) := by decide +kernel
theorem d_M_square_47 : decode b_M_square 47 = .ok (.iaload, 1) := by decide +kernel
theorem d_M_square_48 : decode b_M_square 48 = .ok (.i2l, 1) := by decide +kernel
theorem d_M_square_49 : decode b_M_square 49 = .ok (.lsub, 1) := by decide +kernel
theorem d_M_square_50 : decode b_M_square 50 = .ok (.lstore 5, 2) := by decide +kernel
theorem d_M_square_52 : decode b_M_square 52 = .ok (.lload 5, 2) := by decide +kernel
theorem d_M_square_54 : decode b_M_square 54 = .ok (.lload 5, 2) := by decide +kernel
theorem d_M_square_56 : decode b_M_square 56 = .ok (.lmul, 1) := by decide +kernel
theorem d_M_square_57 : decode b_M_square 57 = .ok (.lreturn, 1) := by decide +kernel
theorem d_M_hitsHigh_0 : decode b_M_hitsHigh 0 = .ok (.iload_n 0, 1) := by decide +kernel
theorem d_M_hitsHigh_1 : decode b_M_hitsHigh 1 = .ok (.ifCond .lt 11, 3) := by decide +kernel
theorem d_M_hitsHigh_4 : decode b_M_hitsHigh 4 = .ok (.iload_n 0, 1) := by decide +kernel
theorem d_M_hitsHigh_5 : decode b_M_hitsHigh 5 = .ok (.iconst 1, 1) := by decide +kernel
theorem d_M_hitsHigh_6 : decode b_M_hitsHigh 6 = .ok (.iadd, 1) := by decide +kernel
theorem d_M_hitsHigh_7 : decode b_M_hitsHigh 7 = .ok (.iconst 2, 1) := by decide +kernel
theorem d_M_hitsHigh_8 : decode b_M_hitsHigh 8 = .ok (.idiv, 1) := by decide +kernel
theorem d_M_hitsHigh_9 : decode b_M_hitsHigh 9 = .ok (.goto 7, 3) := by decide +kernel
theorem d_M_hitsHigh_12 : decode b_M_hitsHigh 12 = .ok (.iload_n 0, 1) := by decide +kernel
theorem d_M_hitsHigh_13 : decode b_M_hitsHigh 13 = .ok (.ineg, 1) := by decide +kernel
theorem d_M_hitsHigh_14 : decode b_M_hitsHigh 14 = .ok (.iconst 2, 1) := by decide +kernel
theorem d_M_hitsHigh_15 : decode b_M_hitsHigh 15 = .ok (.idiv, 1) := by decide +kernel
theorem d_M_hitsHigh_16 : decode b_M_hitsHigh 16 = .ok (.ireturn, 1) := by decide +kernel
theorem d_M_hitsLow_0 : decode b_M_hitsLow 0 = .ok (.iload_n 0, 1) := by decide +kernel
theorem d_M_hitsLow_1 : decode b_M_hitsLow 1 = .ok (.ifCond .lt 9, 3) := by decide +kernel
theorem d_M_hitsLow_4 : decode b_M_hitsLow 4 = .ok (.iload_n 0, 1) := by decide +kernel
theorem d_M_hitsLow_5 : decode b_M_hitsLow 5 = .ok (.iconst 2, 1) := by decide +kernel
theorem d_M_hitsLow_6 : decode b_M_hitsLow 6 = .ok (.idiv, 1) := by decide +kernel
theorem d_M_hitsLow_7 : decode b_M_hitsLow 7 = .ok (.goto 8, 3) := by decide +kernel
theorem d_M_hitsLow_10 : decode b_M_hitsLow 10 = .ok (.iconst 1, 1) := by decide +kernel
theorem d_M_hitsLow_11 : decode b_M_hitsLow 11 = .ok (.iload_n 0, 1) := by decide +kernel
theorem d_M_hitsLow_12 : decode b_M_hitsLow 12 = .ok (.isub, 1) := by decide +kernel
theorem d_M_hitsLow_13 : decode b_M_hitsLow 13 = .ok (.iconst 2, 1) := by decide +kernel
theorem d_M_hitsLow_14 : decode b_M_hitsLow 14 = .ok (.idiv, 1) := by decide +kernel
theorem d_M_hitsLow_15 : decode b_M_hitsLow 15 = .ok (.ireturn, 1) := by decide +kernel
theorem d_M_distance_0 : decode b_M_distance 0 = .ok (.aload_n 0, 1) := by decide +kernel
theorem d_M_distance_1 : decode b_M_distance 1 = .ok (.iconst 0, 1) := by decide +kernel
theorem d_M_distance_2 : decode b_M_distance 2 = .ok (.iload_n 1, 1) := by decide +kernel
theorem d_M_distance_3 : decode b_M_distance 3 = .ok (.invokevirtual 61, 3) := by decide +kernel
theorem d_M_distance_6 : decode b_M_distance 6 = .ok (.aload_n 0, 1) := by decide +kernel
end
section
theorem d_M_distance_7 : decode b_M_distance 7 = .ok (.iconst 1, 1) := by decide +kernel
theorem d_M_distance_8 : decode b_M_distance 8 = .ok (.iload_n 2, 1) := by decide +kernel
theorem d_M_distance_9 : decode b_M_distance 9 = .ok (.invokevirtual 61, 3) := by decide +kernel
theorem d_M_distance_12 : decode b_M_distance 12 = .ok (.ladd, 1) := by decide +kernel
theorem d_M_distance_13 : decode b_M_distance 13 = .ok (.aload_n 0, 1) := by decide +kernel
theorem d_M_distance_14 : decode b_M_distance 14 = .ok (.iconst 2, 1) := by decide +kernel
theorem d_M_distance_15 : decode b_M_distance 15 = .ok (.iload_n 3, 1) := by decide +kernel
theorem d_M_distance_16 : decode b_M_distance 16 = .ok (.invokevirtual 61, 3) := by decide +kernel
theorem d_M_distance_19 : decode b_M_distance 19 = .ok (.ladd, 1) := by decide +kernel
theorem d_M_distance_20 : decode b_M_distance 20 = .ok (.lreturn, 1) := by decide +kernel
theorem d_M_kept_0 : decode b_M_kept 0 = .ok (.lload_n 1, 1) := by decide +kernel
theorem d_M_kept_1 : decode b_M_kept 1 = .ok (.lstore 5, 2) := by decide +kernel
theorem d_M_kept_3 : decode b_M_kept 3 = .ok (.iconst 0, 1) := by decide +kernel
theorem d_M_kept_4 : decode b_M_kept 4 = .ok (.istore 7, 2) := by decide +kernel
theorem d_M_kept_6 : decode b_M_kept 6 = .ok (.iload 7, 2) := by decide +kernel
theorem d_M_kept_8 : decode b_M_kept 8 = .ok (.iload 4, 2) := by decide +kernel
theorem d_M_kept_10 : decode b_M_kept 10 = .ok (.if_icmp .ge 25, 3) := by decide +kernel
theorem d_M_kept_13 : decode b_M_kept 13 = .ok (.lload 5, 2) := by decide +kernel
theorem d_M_kept_15 : decode b_M_kept 15 = .ok (.aload_n 0, 1) := by decide +kernel
theorem d_M_kept_16 : decode b_M_kept 16 = .ok (.getfield 19, 3) := by decide +kernel
theorem d_M_kept_19 : decode b_M_kept 19 = .ok (.iload_n 3, 1) := by decide +kernel
theorem d_M_kept_20 : decode b_M_kept 20 = .ok (.iaload, 1) := by decide +kernel
theorem d_M_kept_21 : decode b_M_kept 21 = .ok (.i2l, 1) := by decide +kernel
theorem d_M_kept_22 : decode b_M_kept 22 = .ok (.lmul, 1) := by decide +kernel
theorem d_M_kept_23 : decode b_M_kept 23 = .ok (.ldc2_w 59, 3) := by decide +kernel
theorem d_M_kept_26 : decode b_M_kept 26 = .ok (.ldiv, 1) := by decide +kernel
theorem d_M_kept_27 : decode b_M_kept 27 = .ok (.lstore 5, 2) := by decide +kernel
theorem d_M_kept_29 : decode b_M_kept 29 = .ok (.iinc 7 1, 3) := by decide +kernel
theorem d_M_kept_32 : decode b_M_kept 32 = .ok (.goto (-26), 3) := by decide +kernel
theorem d_M_kept_35 : decode b_M_kept 35 = .ok (.lload 5, 2) := by decide +kernel
theorem d_M_kept_37 : decode b_M_kept 37 = .ok (.lreturn, 1) := by decide +kernel
theorem d_M_strength_0 : decode b_M_strength 0 = .ok (.ldc2_w 65, 3) := by decide +kernel
theorem d_M_strength_3 : decode b_M_strength 3 = .ok (.lstore 4, 2) := by decide +kernel
theorem d_M_strength_5 : decode b_M_strength 5 = .ok (.aload_n 0, 1) := by decide +kernel
theorem d_M_strength_6 : decode b_M_strength 6 = .ok (.lload 4, 2) := by decide +kernel
theorem d_M_strength_8 : decode b_M_strength 8 = .ok (.iconst 0, 1) := by decide +kernel
theorem d_M_strength_9 : decode b_M_strength 9 = .ok (.iload_n 1, 1) := by decide +kernel
theorem d_M_strength_10 : decode b_M_strength 10 = .ok (.invokestatic 67, 3) := by decide +kernel
theorem d_M_strength_13 : decode b_M_strength 13 = .ok (.invokevirtual 71, 3) := by decide +kernel
theorem d_M_strength_16 : decode b_M_strength 16 = .ok (.lstore 4, 2) := by decide +kernel
theorem d_M_strength_18 : decode b_M_strength 18 = .ok (.aload_n 0, 1) := by decide +kernel
theorem d_M_strength_19 : decode b_M_strength 19 = .ok (.lload 4, 2) := by decide +kernel
theorem d_M_strength_21 : decode b_M_strength 21 = .ok (.iconst 1, 1) := by decide +kernel
theorem d_M_strength_22 : decode b_M_strength 22 = .ok (.iload_n 1, 1) := by decide +kernel
theorem d_M_strength_23 : decode b_M_strength 23 = .ok (.invokestatic 75, 3) := by decide +kernel
theorem d_M_strength_26 : decode b_M_strength 26 = .ok (.invokevirtual 71, 3) := by decide +kernel
theorem d_M_strength_29 : decode b_M_strength 29 = .ok (.lstore 4, 2) := by decide +kernel
theorem d_M_strength_31 : decode b_M_strength 31 = .ok (.aload_n 0, 1) := by decide +kernel
theorem d_M_strength_32 : decode b_M_strength 32 = .ok (.lload 4, 2) := by decide +kernel
theorem d_M_strength_34 : decode b_M_strength 34 = .ok (.iconst 2, 1) := by decide +kernel
theorem d_M_strength_35 : decode b_M_strength 35 = .ok (.iload_n 2, 1) := by decide +kernel
theorem d_M_strength_36 : decode b_M_strength 36 = .ok (.invokestatic 67, 3) := by decide +kernel
theorem d_M_strength_39 : decode b_M_strength 39 = .ok (.invokevirtual 71, 3) := by decide +kernel
theorem d_M_strength_42 : decode b_M_strength 42 = .ok (.lstore 4, 2) := by decide +kernel
theorem d_M_strength_44 : decode b_M_strength 44 = .ok (.aload_n 0, 1) := by decide +kernel
theorem d_M_strength_45 : decode b_M_strength 45 = .ok (.lload 4, 2) := by decide +kernel
theorem d_M_strength_47 : decode b_M_strength 47 = .ok (.iconst 3, 1) := by decide +kernel
theorem d_M_strength_48 : decode b_M_strength 48 = .ok (.iload_n 2, 1) := by decide +kernel
theorem d_M_strength_49 : decode b_M_strength 49 = .ok (.invokestatic 75, 3) := by decide +kernel
theorem d_M_strength_52 : decode b_M_strength 52 = .ok (.invokevirtual 71, 3) := by decide +kernel
theorem d_M_strength_55 : decode b_M_strength 55 = .ok (.lstore 4, 2) := by decide +kernel
theorem d_M_strength_57 : decode b_M_strength 57 = .ok (.aload_n 0, 1) := by decide +kernel
theorem d_M_strength_58 : decode b_M_strength 58 = .ok (.lload 4, 2) := by decide +kernel
theorem d_M_strength_60 : decode b_M_strength 60 = .ok (.iconst 4, 1) := by decide +kernel
theorem d_M_strength_61 : decode b_M_strength 61 = .ok (.iload_n 3, 1) := by decide +kernel
theorem d_M_strength_62 : decode b_M_strength 62 = .ok (.invokestatic 67, 3) := by decide +kernel
theorem d_M_strength_65 : decode b_M_strength 65 = .ok (.invokevirtual 71, 3) := by decide +kernel
theorem d_M_strength_68 : decode b_M_strength 68 = .ok (.lstore 4, 2) := by decide +kernel
theorem d_M_strength_70 : decode b_M_strength 70 = .ok (.aload_n 0, 1) := by decide +kernel
theorem d_M_strength_71 : decode b_M_strength 71 = .ok (.lload 4, 2) := by decide +kernel
theorem d_M_strength_73 : decode b_M_strength 73 = .ok (.iconst 5, 1) := by decide +kernel
theorem d_M_strength_74 : decode b_M_strength 74 = .ok (.iload_n 3, 1) := by decide +kernel
theorem d_M_strength_75 : decode b_M_strength 75 = .ok (.invokestatic 75, 3) := by decide +kernel
theorem d_M_strength_78 : decode b_M_strength 78 = .ok (.invokevirtual 71, 3) := by decide +kernel
theorem d_M_strength_81 : decode b_M_strength 81 = .ok (.lreturn, 1) := by decide +kernel
theorem d_M_hits_0 : decode b_M_hits 0 = .ok (.iload_n 0, 1) := by decide +kernel
theorem d_M_hits_1 : decode b_M_hits 1 = .ok (.invokestatic 67, 3) := by decide +kernel
theorem d_M_hits_4 : decode b_M_hits 4 = .ok (.iload_n 0, 1) := by decide +kernel
theorem d_M_hits_5 : decode b_M_hits 5 = .ok (.invokestatic 75, 3) := by decide +kernel
theorem d_M_hits_8 : decode b_M_hits 8 = .ok (.iadd, 1) := by decide +kernel
theorem d_M_hits_9 : decode b_M_hits 9 = .ok (.ireturn, 1) := by decide +kernel
theorem d_M_told_0 : decode b_M_told 0 = .ok (.iload 4, 2) := by decide +kernel
theorem d_M_told_2 : decode b_M_told 2 = .ok (.tableswitch 60 0 2 #[26, 34, 42], 26) := by decide +kernel
theorem d_M_told_28 : decode b_M_told 28 = .ok (.aload_n 0, 1) := by decide +kernel
theorem d_M_told_29 : decode b_M_told 29 = .ok (.iload_n 1, 1) := by decide +kernel
theorem d_M_told_30 : decode b_M_told 30 = .ok (.iload_n 2, 1) := by decide +kernel
theorem d_M_told_31 : decode b_M_told 31 = .ok (.iload_n 3, 1) := by decide +kernel
theorem d_M_told_32 : decode b_M_told 32 = .ok (.invokevirtual 78, 3) := by decide +kernel
theorem d_M_told_35 : decode b_M_told 35 = .ok (.lreturn, 1) := by decide +kernel
theorem d_M_told_36 : decode b_M_told 36 = .ok (.aload_n 0, 1) := by decide +kernel
theorem d_M_told_37 : decode b_M_told 37 = .ok (.iload_n 1, 1) := by decide +kernel
theorem d_M_told_38 : decode b_M_told 38 = .ok (.iload_n 2, 1) := by decide +kernel
theorem d_M_told_39 : decode b_M_told 39 = .ok (.iload_n 3, 1) := by decide +kernel
theorem d_M_told_40 : decode b_M_told 40 = .ok (.invokevirtual 82, 3) := by decide +kernel
theorem d_M_told_43 : decode b_M_told 43 = .ok (.lreturn, 1) := by decide +kernel
theorem d_M_told_44 : decode b_M_told 44 = .ok (.aload_n 0, 1) := by decide +kernel
theorem d_M_told_45 : decode b_M_told 45 = .ok (.iload_n 1, 1) := by decide +kernel
theorem d_M_told_46 : decode b_M_told 46 = .ok (.iload_n 2, 1) := by decide +kernel
theorem d_M_told_47 : decode b_M_told 47 = .ok (.iload_n 3, 1) := by decide +kernel
theorem d_M_told_48 : decode b_M_told 48 = .ok (.invokevirtual 82, 3) := by decide +kernel
theorem d_M_told_51 : decode b_M_told 51 = .ok (.lconst 1, 1) := by decide +kernel
theorem d_M_told_52 : decode b_M_told 52 = .ok (.aload_n 0, 1) := by decide +kernel
theorem d_M_told_53 : decode b_M_told 53 = .ok (.iload_n 1, 1) := by decide +kernel
theorem d_M_told_54 : decode b_M_told 54 = .ok (.iload_n 2, 1) := by decide +kernel
theorem d_M_told_55 : decode b_M_told 55 = .ok (.iload_n 3, 1) := by decide +kernel
theorem d_M_told_56 : decode b_M_told 56 = .ok (.invokevirtual 78, 3) := by decide +kernel
theorem d_M_told_59 : decode b_M_told 59 = .ok (.ladd, 1) := by decide +kernel
theorem d_M_told_60 : decode b_M_told 60 = .ok (.ldiv, 1) := by decide +kernel
theorem d_M_told_61 : decode b_M_told 61 = .ok (.lreturn, 1) := by decide +kernel
theorem d_M_told_62 : decode b_M_told 62 = .ok (.iload_n 1, 1) := by decide +kernel
theorem d_M_told_63 : decode b_M_told 63 = .ok (.invokestatic 85, 3) := by decide +kernel
theorem d_M_told_66 : decode b_M_told 66 = .ok (.iload_n 2, 1) := by decide +kernel
theorem d_M_told_67 : decode b_M_told 67 = .ok (.invokestatic 85, 3) := by decide +kernel
theorem d_M_told_70 : decode b_M_told 70 = .ok (.iadd, 1) := by decide +kernel
theorem d_M_told_71 : decode b_M_told 71 = .ok (.iload_n 3, 1) := by decide +kernel
theorem d_M_told_72 : decode b_M_told 72 = .ok (.invokestatic 85, 3) := by decide +kernel
theorem d_M_told_75 : decode b_M_told 75 = .ok (.iadd, 1) := by decide +kernel
theorem d_M_told_76 : decode b_M_told 76 = .ok (.i2l, 1) := by decide +kernel
theorem d_M_told_77 : decode b_M_told 77 = .ok (.lreturn, 1) := by decide +kernel
theorem d_M_isImage_0 : decode b_M_isImage 0 = .ok (.iload_n 0, 1) := by decide +kernel
theorem d_M_isImage_1 : decode b_M_isImage 1 = .ok (.i2l, 1) := by decide +kernel
theorem d_M_isImage_2 : decode b_M_isImage 2 = .ok (.ldc2_w 88, 3) := by decide +kernel
theorem d_M_isImage_5 : decode b_M_isImage 5 = .ok (.ldc2_w 90, 3) := by decide +kernel
theorem d_M_isImage_8 : decode b_M_isImage 8 = .ok (.invokestatic 45, 3) := by decide +kernel
theorem d_M_isImage_11 : decode b_M_isImage 11 = .ok (.ifCond .eq 35, 3) := by decide +kernel
theorem d_M_isImage_14 : decode b_M_isImage 14 = .ok (.iload_n 1, 1) := by decide +kernel
theorem d_M_isImage_15 : decode b_M_isImage 15 = .ok (.i2l, 1) := by decide +kernel
theorem d_M_isImage_16 : decode b_M_isImage 16 = .ok (.ldc2_w 88, 3) := by decide +kernel
theorem d_M_isImage_19 : decode b_M_isImage 19 = .ok (.ldc2_w 90, 3) := by decide +kernel
theorem d_M_isImage_22 : decode b_M_isImage 22 = .ok (.invokestatic 45, 3) := by decide +kernel
theorem d_M_isImage_25 : decode b_M_isImage 25 = .ok (.ifCond .eq 21, 3) := by decide +kernel
theorem d_M_isImage_28 : decode b_M_isImage 28 = .ok (.iload_n 2, 1) := by decide +kernel
theorem d_M_isImage_29 : decode b_M_isImage 29 = .ok (.i2l, 1) := by decide +kernel
theorem d_M_isImage_30 : decode b_M_isImage 30 = .ok (.ldc2_w 88, 3) := by decide +kernel
theorem d_M_isImage_33 : decode b_M_isImage 33 = .ok (.ldc2_w 90, 3) := by decide +kernel
theorem d_M_isImage_36 : decode b_M_isImage 36 = .ok (.invokestatic 45, 3) := by decide +kernel
theorem d_M_isImage_39 : decode b_M_isImage 39 = .ok (.ifCond .eq 7, 3) := by decide +kernel
theorem d_M_isImage_42 : decode b_M_isImage 42 = .ok (.iconst 1, 1) := by decide +kernel
theorem d_M_isImage_43 : decode b_M_isImage 43 = .ok (.goto 4, 3) := by decide +kernel
theorem d_M_isImage_46 : decode b_M_isImage 46 = .ok (.iconst 0, 1) := by decide +kernel
theorem d_M_isImage_47 : decode b_M_isImage 47 = .ok (.ireturn, 1) := by decide +kernel
theorem d_M_image_0 : decode b_M_image 0 = .ok (.aload_n 0, 1) := by decide +kernel
theorem d_M_image_1 : decode b_M_image 1 = .ok (.iload_n 1, 1) := by decide +kernel
theorem d_M_image_2 : decode b_M_image 2 = .ok (.iload_n 2, 1) := by decide +kernel
theorem d_M_image_3 : decode b_M_image 3 = .ok (.iload_n 3, 1) := by decide +kernel
theorem d_M_image_4 : decode b_M_image 4 = .ok (.invokestatic 92, 3) := by decide +kernel
theorem d_M_image_7 : decode b_M_image 7 = .ok (.ifCond .eq 20, 3) := by decide +kernel
theorem d_M_image_10 : decode b_M_image 10 = .ok (.iload 4, 2) := by decide +kernel
theorem d_M_image_12 : decode b_M_image 12 = .ok (.i2l, 1) := by decide +kernel
theorem d_M_image_13 : decode b_M_image 13 = .ok (.lconst 0, 1) := by decide +kernel
theorem d_M_image_14 : decode b_M_image 14 = .ok (.ldc2_w 95, 3) := by decide +kernel
theorem d_M_image_17 : decode b_M_image 17 = .ok (.invokestatic 45, 3) := by decide +kernel
theorem d_M_image_20 : decode b_M_image 20 = .ok (.ifCond .eq 7, 3) := by decide +kernel
theorem d_M_image_23 : decode b_M_image 23 = .ok (.iconst 0, 1) := by decide +kernel
theorem d_M_image_24 : decode b_M_image 24 = .ok (.goto 4, 3) := by decide +kernel
theorem d_M_image_27 : decode b_M_image 27 = .ok (.iconst 1, 1) := by decide +kernel
theorem d_M_image_28 : decode b_M_image 28 = .ok (.putfield 41, 3) := by decide +kernel
theorem d_M_image_31 : decode b_M_image 31 = .ok (.aload_n 0, 1) := by decide +kernel
theorem d_M_image_32 : decode b_M_image 32 = .ok (.getfield 41, 3) := by decide +kernel
theorem d_M_image_35 : decode b_M_image 35 = .ok (.ifCond .le 7, 3) := by decide +kernel
theorem d_M_image_38 : decode b_M_image 38 = .ok (.lconst 0, 1) := by decide +kernel
theorem d_M_image_39 : decode b_M_image 39 = .ok (.goto 12, 3) := by decide +kernel
theorem d_M_image_42 : decode b_M_image 42 = .ok (.aload_n 0, 1) := by decide +kernel
theorem d_M_image_43 : decode b_M_image 43 = .ok (.iload_n 1, 1) := by decide +kernel
theorem d_M_image_44 : decode b_M_image 44 = .ok (.iload_n 2, 1) := by decide +kernel
theorem d_M_image_45 : decode b_M_image 45 = .ok (.iload_n 3, 1) := by decide +kernel
theorem d_M_image_46 : decode b_M_image 46 = .ok (.iload 4, 2) := by decide +kernel
theorem d_M_image_48 : decode b_M_image 48 = .ok (.invokevirtual 97, 3) := by decide +kernel
theorem d_M_image_51 : decode b_M_image 51 = .ok (.lreturn, 1) := by decide +kernel
theorem d_M_prepare_0 : decode b_M_prepare 0 = .ok (.iconst 0, 1) := by decide +kernel
theorem d_M_prepare_1 : decode b_M_prepare 1 = .ok (.istore_n 1, 1) := by decide +kernel
theorem d_M_prepare_2 : decode b_M_prepare 2 = .ok (.iload_n 1, 1) := by decide +kernel
theorem d_M_prepare_3 : decode b_M_prepare 3 = .ok (.iconst 3, 1) := by decide +kernel
theorem d_M_prepare_4 : decode b_M_prepare 4 = .ok (.if_icmp .ge 117, 3) := by decide +kernel
theorem d_M_prepare_7 : decode b_M_prepare 7 = .ok (.iconst 0, 1) := by decide +kernel
theorem d_M_prepare_8 : decode b_M_prepare 8 = .ok (.istore_n 2, 1) := by decide +kernel
theorem d_M_prepare_9 : decode b_M_prepare 9 = .ok (.iload_n 2, 1) := by decide +kernel
theorem d_M_prepare_10 : decode b_M_prepare 10 = .ok (.bipush 81, 2) := by decide +kernel
theorem d_M_prepare_12 : decode b_M_prepare 12 = .ok (.if_icmp .ge 103, 3) := by decide +kernel
theorem d_M_prepare_15 : decode b_M_prepare 15 = .ok (.aload_n 0, 1) := by decide +kernel
theorem d_M_prepare_16 : decode b_M_prepare 16 = .ok (.iload_n 1, 1) := by decide +kernel
theorem d_M_prepare_17 : decode b_M_prepare 17 = .ok (.iload_n 2, 1) := by decide +kernel
theorem d_M_prepare_18 : decode b_M_prepare 18 = .ok (.bipush 40, 2) := by decide +kernel
theorem d_M_prepare_20 : decode b_M_prepare 20 = .ok (.isub, 1) := by decide +kernel
theorem d_M_prepare_21 : decode b_M_prepare 21 = .ok (.invokevirtual 61, 3) := by decide +kernel
theorem d_M_prepare_24 : decode b_M_prepare 24 = .ok (.lstore_n 3, 1) := by decide +kernel
theorem d_M_prepare_25 : decode b_M_prepare 25 = .ok (.aload_n 0, 1) := by decide +kernel
theorem d_M_prepare_26 : decode b_M_prepare 26 = .ok (.getfield 22, 3) := by decide +kernel
theorem d_M_prepare_29 : decode b_M_prepare 29 = .ok (.bipush 81, 2) := by decide +kernel
theorem d_M_prepare_31 : decode b_M_prepare 31 = .ok (.iload_n 1, 1) := by decide +kernel
theorem d_M_prepare_32 : decode b_M_prepare 32 = .ok (.imul, 1) := by decide +kernel
theorem d_M_prepare_33 : decode b_M_prepare 33 = .ok (.iload_n 2, 1) := by decide +kernel
theorem d_M_prepare_34 : decode b_M_prepare 34 = .ok (.iadd, 1) := by decide +kernel
theorem d_M_prepare_35 : decode b_M_prepare 35 = .ok (.lload_n 3, 1) := by decide +kernel
theorem d_M_prepare_36 : decode b_M_prepare 36 = .ok (.lastore, 1) := by decide +kernel
theorem d_M_prepare_37 : decode b_M_prepare 37 = .ok (.iload_n 2, 1) := by decide +kernel
theorem d_M_prepare_38 : decode b_M_prepare 38 = .ok (.istore 5, 2) := by decide +kernel
theorem d_M_prepare_40 : decode b_M_prepare 40 = .ok (.iload 5, 2) := by decide +kernel
theorem d_M_prepare_42 : decode b_M_prepare 42 = .ok (.ifCond .le 54, 3) := by decide +kernel
theorem d_M_prepare_45 : decode b_M_prepare 45 = .ok (.aload_n 0, 1) := by decide +kernel
theorem d_M_prepare_46 : decode b_M_prepare 46 = .ok (.getfield 26, 3) := by decide +kernel
theorem d_M_prepare_49 : decode b_M_prepare 49 = .ok (.bipush 81, 2) := by decide +kernel
theorem d_M_prepare_51 : decode b_M_prepare 51 = .ok (.iload_n 1, 1) := by decide +kernel
theorem d_M_prepare_52 : decode b_M_prepare 52 = .ok (.imul, 1) := by decide +kernel
theorem d_M_prepare_53 : decode b_M_prepare 53 = .ok (.iload 5, 2) := by decide +kernel
theorem d_M_prepare_55 : decode b_M_prepare 55 = .ok (.iadd, 1) := by decide +kernel
theorem d_M_prepare_56 : decode b_M_prepare 56 = .ok (.iconst 1, 1) := by decide +kernel
theorem d_M_prepare_57 : decode b_M_prepare 57 = .ok (.isub, 1) := by decide +kernel
theorem d_M_prepare_58 : decode b_M_prepare 58 = .ok (.laload, 1) := by decide +kernel
theorem d_M_prepare_59 : decode b_M_prepare 59 = .ok (.lload_n 3, 1) := by decide +kernel
theorem d_M_prepare_60 : decode b_M_prepare 60 = .ok (.lcmp, 1) := by decide +kernel
theorem d_M_prepare_61 : decode b_M_prepare 61 = .ok (.ifCond .le 35, 3) := by decide +kernel
theorem d_M_prepare_64 : decode b_M_prepare 64 = .ok (.aload_n 0, 1) := by decide +kernel
theorem d_M_prepare_65 : decode b_M_prepare 65 = .ok (.getfield 26, 3) := by decide +kernel
theorem d_M_prepare_68 : decode b_M_prepare 68 = .ok (.bipush 81, 2) := by decide +kernel
theorem d_M_prepare_70 : decode b_M_prepare 70 = .ok (.iload_n 1, 1) := by decide +kernel
theorem d_M_prepare_71 : decode b_M_prepare 71 = .ok (.imul, 1) := by decide +kernel
theorem d_M_prepare_72 : decode b_M_prepare 72 = .ok (.iload 5, 2) := by decide +kernel
theorem d_M_prepare_74 : decode b_M_prepare 74 = .ok (.iadd, 1) := by decide +kernel
theorem d_M_prepare_75 : decode b_M_prepare 75 = .ok (.aload_n 0, 1) := by decide +kernel
theorem d_M_prepare_76 : decode b_M_prepare 76 = .ok (.getfield 26, 3) := by decide +kernel
theorem d_M_prepare_79 : decode b_M_prepare 79 = .ok (.bipush 81, 2) := by decide +kernel
theorem d_M_prepare_81 : decode b_M_prepare 81 = .ok (.iload_n 1, 1) := by decide +kernel
theorem d_M_prepare_82 : decode b_M_prepare 82 = .ok (.imul, 1) := by decide +kernel
theorem d_M_prepare_83 : decode b_M_prepare 83 = .ok (.iload 5, 2) := by decide +kernel
theorem d_M_prepare_85 : decode b_M_prepare 85 = .ok (.iadd, 1) := by decide +kernel
theorem d_M_prepare_86 : decode b_M_prepare 86 = .ok (.iconst 1, 1) := by decide +kernel
theorem d_M_prepare_87 : decode b_M_prepare 87 = .ok (.isub, 1) := by decide +kernel
theorem d_M_prepare_88 : decode b_M_prepare 88 = .ok (.laload, 1) := by decide +kernel
theorem d_M_prepare_89 : decode b_M_prepare 89 = .ok (.lastore, 1) := by decide +kernel
theorem d_M_prepare_90 : decode b_M_prepare 90 = .ok (.iinc 5 (-1), 3) := by decide +kernel
theorem d_M_prepare_93 : decode b_M_prepare 93 = .ok (.goto (-53), 3) := by decide +kernel
theorem d_M_prepare_96 : decode b_M_prepare 96 = .ok (.aload_n 0, 1) := by decide +kernel
theorem d_M_prepare_97 : decode b_M_prepare 97 = .ok (.getfield 26, 3) := by decide +kernel
theorem d_M_prepare_100 : decode b_M_prepare 100 = .ok (.bipush 81, 2) := by decide +kernel
theorem d_M_prepare_102 : decode b_M_prepare 102 = .ok (.iload_n 1, 1) := by decide +kernel
theorem d_M_prepare_103 : decode b_M_prepare 103 = .ok (.imul, 1) := by decide +kernel
theorem d_M_prepare_104 : decode b_M_prepare 104 = .ok (.iload 5, 2) := by decide +kernel
theorem d_M_prepare_106 : decode b_M_prepare 106 = .ok (.iadd, 1) := by decide +kernel
theorem d_M_prepare_107 : decode b_M_prepare 107 = .ok (.lload_n 3, 1) := by decide +kernel
theorem d_M_prepare_108 : decode b_M_prepare 108 = .ok (.lastore, 1) := by decide +kernel
theorem d_M_prepare_109 : decode b_M_prepare 109 = .ok (.iinc 2 1, 3) := by decide +kernel
theorem d_M_prepare_112 : decode b_M_prepare 112 = .ok (.goto (-103), 3) := by decide +kernel
theorem d_M_prepare_115 : decode b_M_prepare 115 = .ok (.iinc 1 1, 3) := by decide +kernel
theorem d_M_prepare_118 : decode b_M_prepare 118 = .ok (.goto (-116), 3) := by decide +kernel
theorem d_M_prepare_121 : decode b_M_prepare 121 = .ok (.return_, 1) := by decide +kernel
theorem d_M_isEnough_0 : decode b_M_isEnough 0 = .ok (.iconst 0, 1) := by decide +kernel
theorem d_M_isEnough_1 : decode b_M_isEnough 1 = .ok (.istore_n 3, 1) := by decide +kernel
theorem d_M_isEnough_2 : decode b_M_isEnough 2 = .ok (.iconst 0, 1) := by decide +kernel
theorem d_M_isEnough_3 : decode b_M_isEnough 3 = .ok (.istore 4, 2) := by decide +kernel
theorem d_M_isEnough_5 : decode b_M_isEnough 5 = .ok (.iload 4, 2) := by decide +kernel
theorem d_M_isEnough_7 : decode b_M_isEnough 7 = .ok (.bipush 81, 2) := by decide +kernel
theorem d_M_isEnough_9 : decode b_M_isEnough 9 = .ok (.if_icmp .ge 104, 3) := by decide +kernel
theorem d_M_isEnough_12 : decode b_M_isEnough 12 = .ok (.iload_n 3, 1) := by decide +kernel
theorem d_M_isEnough_13 : decode b_M_isEnough 13 = .ok (.sipush 500, 3) := by decide +kernel
theorem d_M_isEnough_16 : decode b_M_isEnough 16 = .ok (.if_icmp .ge 97, 3) := by decide +kernel
theorem d_M_isEnough_19 : decode b_M_isEnough 19 = .ok (.iconst 0, 1) := by decide +kernel
theorem d_M_isEnough_20 : decode b_M_isEnough 20 = .ok (.istore 5, 2) := by decide +kernel
theorem d_M_isEnough_22 : decode b_M_isEnough 22 = .ok (.iload 5, 2) := by decide +kernel
theorem d_M_isEnough_24 : decode b_M_isEnough 24 = .ok (.bipush 81, 2) := by decide +kernel
theorem d_M_isEnough_26 : decode b_M_isEnough 26 = .ok (.if_icmp .ge 81, 3) := by decide +kernel
theorem d_M_isEnough_29 : decode b_M_isEnough 29 = .ok (.iload_n 3, 1) := by decide +kernel
theorem d_M_isEnough_30 : decode b_M_isEnough 30 = .ok (.sipush 500, 3) := by decide +kernel
theorem d_M_isEnough_33 : decode b_M_isEnough 33 = .ok (.if_icmp .ge 74, 3) := by decide +kernel
theorem d_M_isEnough_36 : decode b_M_isEnough 36 = .ok (.lload_n 1, 1) := by decide +kernel
theorem d_M_isEnough_37 : decode b_M_isEnough 37 = .ok (.aload_n 0, 1) := by decide +kernel
theorem d_M_isEnough_38 : decode b_M_isEnough 38 = .ok (.getfield 26, 3) := by decide +kernel
theorem d_M_isEnough_41 : decode b_M_isEnough 41 = .ok (.iload 4, 2) := by decide +kernel
theorem d_M_isEnough_43 : decode b_M_isEnough 43 = .ok (.laload, 1) := by decide +kernel
theorem d_M_isEnough_44 : decode b_M_isEnough 44 = .ok (.lsub, 1) := by decide +kernel
theorem d_M_isEnough_45 : decode b_M_isEnough 45 = .ok (.aload_n 0, 1) := by decide +kernel
theorem d_M_isEnough_46 : decode b_M_isEnough 46 = .ok (.getfield 26, 3) := by decide +kernel
theorem d_M_isEnough_49 : decode b_M_isEnough 49 = .ok (.bipush 81, 2) := by decide +kernel
theorem d_M_isEnough_51 : decode b_M_isEnough 51 = .ok (.iload 5, 2) := by decide +kernel
theorem d_M_isEnough_53 : decode b_M_isEnough 53 = .ok (.iadd, 1) := by decide +kernel
theorem d_M_isEnough_54 : decode b_M_isEnough 54 = .ok (.laload, 1) := by decide +kernel
theorem d_M_isEnough_55 : decode b_M_isEnough 55 = .ok (.lsub, 1) := by decide +kernel
theorem d_M_isEnough_56 : decode b_M_isEnough 56 = .ok (.lstore 6, 2) := by decide +kernel
theorem d_M_isEnough_58 : decode b_M_isEnough 58 = .ok (.iconst 0, 1) := by decide +kernel
theorem d_M_isEnough_59 : decode b_M_isEnough 59 = .ok (.istore 8, 2) := by decide +kernel
theorem d_M_isEnough_61 : decode b_M_isEnough 61 = .ok (.iload 8, 2) := by decide +kernel
theorem d_M_isEnough_63 : decode b_M_isEnough 63 = .ok (.bipush 81, 2) := by decide +kernel
theorem d_M_isEnough_65 : decode b_M_isEnough 65 = .ok (.if_icmp .ge 36, 3) := by decide +kernel
theorem d_M_isEnough_68 : decode b_M_isEnough 68 = .ok (.iload_n 3, 1) := by decide +kernel
theorem d_M_isEnough_69 : decode b_M_isEnough 69 = .ok (.sipush 500, 3) := by decide +kernel
theorem d_M_isEnough_72 : decode b_M_isEnough 72 = .ok (.if_icmp .ge 29, 3) := by decide +kernel
theorem d_M_isEnough_75 : decode b_M_isEnough 75 = .ok (.aload_n 0, 1) := by decide +kernel
theorem d_M_isEnough_76 : decode b_M_isEnough 76 = .ok (.getfield 26, 3) := by decide +kernel
theorem d_M_isEnough_79 : decode b_M_isEnough 79 = .ok (.sipush 162, 3) := by decide +kernel
theorem d_M_isEnough_82 : decode b_M_isEnough 82 = .ok (.iload 8, 2) := by decide +kernel
theorem d_M_isEnough_84 : decode b_M_isEnough 84 = .ok (.iadd, 1) := by decide +kernel
theorem d_M_isEnough_85 : decode b_M_isEnough 85 = .ok (.laload, 1) := by decide +kernel
theorem d_M_isEnough_86 : decode b_M_isEnough 86 = .ok (.lload 6, 2) := by decide +kernel
theorem d_M_isEnough_88 : decode b_M_isEnough 88 = .ok (.lcmp, 1) := by decide +kernel
theorem d_M_isEnough_89 : decode b_M_isEnough 89 = .ok (.ifCond .gt 12, 3) := by decide +kernel
theorem d_M_isEnough_92 : decode b_M_isEnough 92 = .ok (.iinc 3 1, 3) := by decide +kernel
theorem d_M_isEnough_95 : decode b_M_isEnough 95 = .ok (.iinc 8 1, 3) := by decide +kernel
theorem d_M_isEnough_98 : decode b_M_isEnough 98 = .ok (.goto (-37), 3) := by decide +kernel
theorem d_M_isEnough_101 : decode b_M_isEnough 101 = .ok (.iinc 5 1, 3) := by decide +kernel
theorem d_M_isEnough_104 : decode b_M_isEnough 104 = .ok (.goto (-82), 3) := by decide +kernel
theorem d_M_isEnough_107 : decode b_M_isEnough 107 = .ok (.iinc 4 1, 3) := by decide +kernel
theorem d_M_isEnough_110 : decode b_M_isEnough 110 = .ok (.goto (-105), 3) := by decide +kernel
theorem d_M_isEnough_113 : decode b_M_isEnough 113 = .ok (.iload_n 3, 1) := by decide +kernel
theorem d_M_isEnough_114 : decode b_M_isEnough 114 = .ok (.sipush 500, 3) := by decide +kernel
theorem d_M_isEnough_117 : decode b_M_isEnough 117 = .ok (.if_icmp .ne 7, 3) := by decide +kernel
theorem d_M_isEnough_120 : decode b_M_isEnough 120 = .ok (.iconst 1, 1) := by decide +kernel
theorem d_M_isEnough_121 : decode b_M_isEnough 121 = .ok (.goto 4, 3) := by decide +kernel
theorem d_M_isEnough_124 : decode b_M_isEnough 124 = .ok (.iconst 0, 1) := by decide +kernel
theorem d_M_isEnough_125 : decode b_M_isEnough 125 = .ok (.ireturn, 1) := by decide +kernel
theorem d_M_make_0 : decode b_M_make 0 = .ok (.aload_n 0, 1) := by decide +kernel
theorem d_M_make_1 : decode b_M_make 1 = .ok (.getfield 53, 3) := by decide +kernel
theorem d_M_make_4 : decode b_M_make 4 = .ok (.ifCond .eq 4, 3) := by decide +kernel
theorem d_M_make_7 : decode b_M_make 7 = .ok (.return_, 1) := by decide +kernel
theorem d_M_make_8 : decode b_M_make 8 = .ok (.aload_n 0, 1) := by decide +kernel
theorem d_M_make_9 : decode b_M_make 9 = .ok (.iconst 1, 1) := by decide +kernel
theorem d_M_make_10 : decode b_M_make 10 = .ok (.putfield 53, 3) := by decide +kernel
theorem d_M_make_13 : decode b_M_make 13 = .ok (.aload_n 0, 1) := by decide +kernel
theorem d_M_make_14 : decode b_M_make 14 = .ok (.invokevirtual 101, 3) := by decide +kernel
theorem d_M_make_17 : decode b_M_make 17 = .ok (.lconst 0, 1) := by decide +kernel
theorem d_M_make_18 : decode b_M_make 18 = .ok (.lstore_n 1, 1) := by decide +kernel
end
section
theorem d_M_make_19 : decode b_M_make 19 = .ok (.ldc2_w 104, 3) := by decide +kernel
theorem d_M_make_22 : decode b_M_make 22 = .ok (.lstore_n 3, 1) := by decide +kernel
theorem d_M_make_23 : decode b_M_make 23 = .ok (.lload_n 1, 1) := by decide +kernel
theorem d_M_make_24 : decode b_M_make 24 = .ok (.lload_n 3, 1) := by decide +kernel
theorem d_M_make_25 : decode b_M_make 25 = .ok (.lcmp, 1) := by decide +kernel
theorem d_M_make_26 : decode b_M_make 26 = .ok (.ifCond .ge 35, 3) := by decide +kernel
theorem d_M_make_29 : decode b_M_make 29 = .ok (.lload_n 1, 1) := by decide +kernel
theorem d_M_make_30 : decode b_M_make 30 = .ok (.lload_n 3, 1) := by decide +kernel
theorem d_M_make_31 : decode b_M_make 31 = .ok (.ladd, 1) := by decide +kernel
theorem d_M_make_32 : decode b_M_make 32 = .ok (.ldc2_w 106, 3) := by decide +kernel
theorem d_M_make_35 : decode b_M_make 35 = .ok (.ldiv, 1) := by decide +kernel
theorem d_M_make_36 : decode b_M_make 36 = .ok (.lstore 5, 2) := by decide +kernel
theorem d_M_make_38 : decode b_M_make 38 = .ok (.aload_n 0, 1) := by decide +kernel
theorem d_M_make_39 : decode b_M_make 39 = .ok (.lload 5, 2) := by decide +kernel
theorem d_M_make_41 : decode b_M_make 41 = .ok (.invokevirtual 108, 3) := by decide +kernel
theorem d_M_make_44 : decode b_M_make 44 = .ok (.ifCond .eq 9, 3) := by decide +kernel
theorem d_M_make_47 : decode b_M_make 47 = .ok (.lload 5, 2) := by decide +kernel
theorem d_M_make_49 : decode b_M_make 49 = .ok (.lstore_n 3, 1) := by decide +kernel
theorem d_M_make_50 : decode b_M_make 50 = .ok (.goto 8, 3) := by decide +kernel
theorem d_M_make_53 : decode b_M_make 53 = .ok (.lload 5, 2) := by decide +kernel
theorem d_M_make_55 : decode b_M_make 55 = .ok (.lconst 1, 1) := by decide +kernel
theorem d_M_make_56 : decode b_M_make 56 = .ok (.ladd, 1) := by decide +kernel
theorem d_M_make_57 : decode b_M_make 57 = .ok (.lstore_n 1, 1) := by decide +kernel
theorem d_M_make_58 : decode b_M_make 58 = .ok (.goto (-35), 3) := by decide +kernel
theorem d_M_make_61 : decode b_M_make 61 = .ok (.aload_n 0, 1) := by decide +kernel
theorem d_M_make_62 : decode b_M_make 62 = .ok (.iconst 0, 1) := by decide +kernel
theorem d_M_make_63 : decode b_M_make 63 = .ok (.lload_n 1, 1) := by decide +kernel
theorem d_M_make_64 : decode b_M_make 64 = .ok (.lconst 1, 1) := by decide +kernel
theorem d_M_make_65 : decode b_M_make 65 = .ok (.lsub, 1) := by decide +kernel
theorem d_M_make_66 : decode b_M_make 66 = .ok (.lconst 0, 1) := by decide +kernel
theorem d_M_make_67 : decode b_M_make 67 = .ok (.invokevirtual 112, 3) := by decide +kernel
theorem d_M_make_70 : decode b_M_make 70 = .ok (.istore 5, 2) := by decide +kernel
theorem d_M_make_72 : decode b_M_make 72 = .ok (.aload_n 0, 1) := by decide +kernel
theorem d_M_make_73 : decode b_M_make 73 = .ok (.iload 5, 2) := by decide +kernel
theorem d_M_make_75 : decode b_M_make 75 = .ok (.lload_n 1, 1) := by decide +kernel
theorem d_M_make_76 : decode b_M_make 76 = .ok (.lload_n 1, 1) := by decide +kernel
theorem d_M_make_77 : decode b_M_make 77 = .ok (.invokevirtual 112, 3) := by decide +kernel
theorem d_M_make_80 : decode b_M_make 80 = .ok (.pop, 1) := by decide +kernel
theorem d_M_make_81 : decode b_M_make 81 = .ok (.return_, 1) := by decide +kernel
theorem d_M_collect_0 : decode b_M_collect 0 = .ok (.iload_n 1, 1) := by decide +kernel
theorem d_M_collect_1 : decode b_M_collect 1 = .ok (.istore 6, 2) := by decide +kernel
theorem d_M_collect_3 : decode b_M_collect 3 = .ok (.iconst 0, 1) := by decide +kernel
theorem d_M_collect_4 : decode b_M_collect 4 = .ok (.istore 7, 2) := by decide +kernel
theorem d_M_collect_6 : decode b_M_collect 6 = .ok (.iload 7, 2) := by decide +kernel
theorem d_M_collect_8 : decode b_M_collect 8 = .ok (.bipush 81, 2) := by decide +kernel
theorem d_M_collect_10 : decode b_M_collect 10 = .ok (.if_icmp .ge 133, 3) := by decide +kernel
theorem d_M_collect_13 : decode b_M_collect 13 = .ok (.iconst 0, 1) := by decide +kernel
theorem d_M_collect_14 : decode b_M_collect 14 = .ok (.istore 8, 2) := by decide +kernel
theorem d_M_collect_16 : decode b_M_collect 16 = .ok (.iload 8, 2) := by decide +kernel
theorem d_M_collect_18 : decode b_M_collect 18 = .ok (.bipush 81, 2) := by decide +kernel
theorem d_M_collect_20 : decode b_M_collect 20 = .ok (.if_icmp .ge 117, 3) := by decide +kernel
theorem d_M_collect_23 : decode b_M_collect 23 = .ok (.aload_n 0, 1) := by decide +kernel
theorem d_M_collect_24 : decode b_M_collect 24 = .ok (.getfield 22, 3) := by decide +kernel
theorem d_M_collect_27 : decode b_M_collect 27 = .ok (.iload 7, 2) := by decide +kernel
theorem d_M_collect_29 : decode b_M_collect 29 = .ok (.laload, 1) := by decide +kernel
theorem d_M_collect_30 : decode b_M_collect 30 = .ok (.aload_n 0, 1) := by decide +kernel
theorem d_M_collect_31 : decode b_M_collect 31 = .ok (.getfield 22, 3) := by decide +kernel
theorem d_M_collect_34 : decode b_M_collect 34 = .ok (.bipush 81, 2) := by decide +kernel
theorem d_M_collect_36 : decode b_M_collect 36 = .ok (.iload 8, 2) := by decide +kernel
theorem d_M_collect_38 : decode b_M_collect 38 = .ok (.iadd, 1) := by decide +kernel
theorem d_M_collect_39 : decode b_M_collect 39 = .ok (.laload, 1) := by decide +kernel
theorem d_M_collect_40 : decode b_M_collect 40 = .ok (.ladd, 1) := by decide +kernel
theorem d_M_collect_41 : decode b_M_collect 41 = .ok (.lstore 9, 2) := by decide +kernel
theorem d_M_collect_43 : decode b_M_collect 43 = .ok (.iconst 0, 1) := by decide +kernel
theorem d_M_collect_44 : decode b_M_collect 44 = .ok (.istore 11, 2) := by decide +kernel
theorem d_M_collect_46 : decode b_M_collect 46 = .ok (.iload 11, 2) := by decide +kernel
theorem d_M_collect_48 : decode b_M_collect 48 = .ok (.bipush 81, 2) := by decide +kernel
theorem d_M_collect_50 : decode b_M_collect 50 = .ok (.if_icmp .ge 81, 3) := by decide +kernel
theorem d_M_collect_53 : decode b_M_collect 53 = .ok (.lload 9, 2) := by decide +kernel
theorem d_M_collect_55 : decode b_M_collect 55 = .ok (.lload_n 2, 1) := by decide +kernel
theorem d_M_collect_56 : decode b_M_collect 56 = .ok (.lcmp, 1) := by decide +kernel
theorem d_M_collect_57 : decode b_M_collect 57 = .ok (.ifCond .gt 74, 3) := by decide +kernel
theorem d_M_collect_60 : decode b_M_collect 60 = .ok (.iload 6, 2) := by decide +kernel
theorem d_M_collect_62 : decode b_M_collect 62 = .ok (.sipush 500, 3) := by decide +kernel
theorem d_M_collect_65 : decode b_M_collect 65 = .ok (.if_icmp .ge 66, 3) := by decide +kernel
theorem d_M_collect_68 : decode b_M_collect 68 = .ok (.lload 9, 2) := by decide +kernel
theorem d_M_collect_70 : decode b_M_collect 70 = .ok (.aload_n 0, 1) := by decide +kernel
theorem d_M_collect_71 : decode b_M_collect 71 = .ok (.getfield 22, 3) := by decide +kernel
theorem d_M_collect_74 : decode b_M_collect 74 = .ok (.sipush 162, 3) := by decide +kernel
theorem d_M_collect_77 : decode b_M_collect 77 = .ok (.iload 11, 2) := by decide +kernel
theorem d_M_collect_79 : decode b_M_collect 79 = .ok (.iadd, 1) := by decide +kernel
theorem d_M_collect_80 : decode b_M_collect 80 = .ok (.laload, 1) := by decide +kernel
theorem d_M_collect_81 : decode b_M_collect 81 = .ok (.ladd, 1) := by decide +kernel
theorem d_M_collect_82 : decode b_M_collect 82 = .ok (.lstore 12, 2) := by decide +kernel
theorem d_M_collect_84 : decode b_M_collect 84 = .ok (.lload 12, 2) := by decide +kernel
theorem d_M_collect_86 : decode b_M_collect 86 = .ok (.lload 4, 2) := by decide +kernel
theorem d_M_collect_88 : decode b_M_collect 88 = .ok (.lcmp, 1) := by decide +kernel
theorem d_M_collect_89 : decode b_M_collect 89 = .ok (.ifCond .lt 36, 3) := by decide +kernel
theorem d_M_collect_92 : decode b_M_collect 92 = .ok (.lload 12, 2) := by decide +kernel
theorem d_M_collect_94 : decode b_M_collect 94 = .ok (.lload_n 2, 1) := by decide +kernel
theorem d_M_collect_95 : decode b_M_collect 95 = .ok (.lcmp, 1) := by decide +kernel
theorem d_M_collect_96 : decode b_M_collect 96 = .ok (.ifCond .gt 29, 3) := by decide +kernel
theorem d_M_collect_99 : decode b_M_collect 99 = .ok (.aload_n 0, 1) := by decide +kernel
theorem d_M_collect_100 : decode b_M_collect 100 = .ok (.iload 6, 2) := by decide +kernel
theorem d_M_collect_102 : decode b_M_collect 102 = .ok (.lload 12, 2) := by decide +kernel
theorem d_M_collect_104 : decode b_M_collect 104 = .ok (.iload 7, 2) := by decide +kernel
theorem d_M_collect_106 : decode b_M_collect 106 = .ok (.bipush 40, 2) := by decide +kernel
theorem d_M_collect_108 : decode b_M_collect 108 = .ok (.isub, 1) := by decide +kernel
theorem d_M_collect_109 : decode b_M_collect 109 = .ok (.iload 8, 2) := by decide +kernel
theorem d_M_collect_111 : decode b_M_collect 111 = .ok (.bipush 40, 2) := by decide +kernel
theorem d_M_collect_113 : decode b_M_collect 113 = .ok (.isub, 1) := by decide +kernel
theorem d_M_collect_114 : decode b_M_collect 114 = .ok (.iload 11, 2) := by decide +kernel
theorem d_M_collect_116 : decode b_M_collect 116 = .ok (.bipush 40, 2) := by decide +kernel
theorem d_M_collect_118 : decode b_M_collect 118 = .ok (.isub, 1) := by decide +kernel
theorem d_M_collect_119 : decode b_M_collect 119 = .ok (.invokevirtual 116, 3) := by decide +kernel
theorem d_M_collect_122 : decode b_M_collect 122 = .ok (.iinc 6 1, 3) := by decide +kernel
theorem d_M_collect_125 : decode b_M_collect 125 = .ok (.iinc 11 1, 3) := by decide +kernel
theorem d_M_collect_128 : decode b_M_collect 128 = .ok (.goto (-82), 3) := by decide +kernel
theorem d_M_collect_131 : decode b_M_collect 131 = .ok (.iinc 8 1, 3) := by decide +kernel
theorem d_M_collect_134 : decode b_M_collect 134 = .ok (.goto (-118), 3) := by decide +kernel
theorem d_M_collect_137 : decode b_M_collect 137 = .ok (.iinc 7 1, 3) := by decide +kernel
theorem d_M_collect_140 : decode b_M_collect 140 = .ok (.goto (-134), 3) := by decide +kernel
theorem d_M_collect_143 : decode b_M_collect 143 = .ok (.iload 6, 2) := by decide +kernel
theorem d_M_collect_145 : decode b_M_collect 145 = .ok (.ireturn, 1) := by decide +kernel
theorem d_M_put_0 : decode b_M_put 0 = .ok (.iload_n 1, 1) := by decide +kernel
theorem d_M_put_1 : decode b_M_put 1 = .ok (.istore 7, 2) := by decide +kernel
theorem d_M_put_3 : decode b_M_put 3 = .ok (.iload 7, 2) := by decide +kernel
theorem d_M_put_5 : decode b_M_put 5 = .ok (.ifCond .le 87, 3) := by decide +kernel
theorem d_M_put_8 : decode b_M_put 8 = .ok (.aload_n 0, 1) := by decide +kernel
theorem d_M_put_9 : decode b_M_put 9 = .ok (.getfield 29, 3) := by decide +kernel
theorem d_M_put_12 : decode b_M_put 12 = .ok (.iload 7, 2) := by decide +kernel
theorem d_M_put_14 : decode b_M_put 14 = .ok (.iconst 1, 1) := by decide +kernel
theorem d_M_put_15 : decode b_M_put 15 = .ok (.isub, 1) := by decide +kernel
theorem d_M_put_16 : decode b_M_put 16 = .ok (.laload, 1) := by decide +kernel
theorem d_M_put_17 : decode b_M_put 17 = .ok (.lload_n 2, 1) := by decide +kernel
theorem d_M_put_18 : decode b_M_put 18 = .ok (.lcmp, 1) := by decide +kernel
theorem d_M_put_19 : decode b_M_put 19 = .ok (.ifCond .le 73, 3) := by decide +kernel
theorem d_M_put_22 : decode b_M_put 22 = .ok (.aload_n 0, 1) := by decide +kernel
theorem d_M_put_23 : decode b_M_put 23 = .ok (.getfield 29, 3) := by decide +kernel
theorem d_M_put_26 : decode b_M_put 26 = .ok (.iload 7, 2) := by decide +kernel
theorem d_M_put_28 : decode b_M_put 28 = .ok (.aload_n 0, 1) := by decide +kernel
theorem d_M_put_29 : decode b_M_put 29 = .ok (.getfield 29, 3) := by decide +kernel
theorem d_M_put_32 : decode b_M_put 32 = .ok (.iload 7, 2) := by decide +kernel
theorem d_M_put_34 : decode b_M_put 34 = .ok (.iconst 1, 1) := by decide +kernel
theorem d_M_put_35 : decode b_M_put 35 = .ok (.isub, 1) := by decide +kernel
theorem d_M_put_36 : decode b_M_put 36 = .ok (.laload, 1) := by decide +kernel
theorem d_M_put_37 : decode b_M_put 37 = .ok (.lastore, 1) := by decide +kernel
theorem d_M_put_38 : decode b_M_put 38 = .ok (.aload_n 0, 1) := by decide +kernel
theorem d_M_put_39 : decode b_M_put 39 = .ok (.getfield 32, 3) := by decide +kernel
theorem d_M_put_42 : decode b_M_put 42 = .ok (.iload 7, 2) := by decide +kernel
theorem d_M_put_44 : decode b_M_put 44 = .ok (.aload_n 0, 1) := by decide +kernel
theorem d_M_put_45 : decode b_M_put 45 = .ok (.getfield 32, 3) := by decide +kernel
theorem d_M_put_48 : decode b_M_put 48 = .ok (.iload 7, 2) := by decide +kernel
theorem d_M_put_50 : decode b_M_put 50 = .ok (.iconst 1, 1) := by decide +kernel
theorem d_M_put_51 : decode b_M_put 51 = .ok (.isub, 1) := by decide +kernel
theorem d_M_put_52 : decode b_M_put 52 = .ok (.iaload, 1) := by decide +kernel
theorem d_M_put_53 : decode b_M_put 53 = .ok (.iastore, 1) := by decide +kernel
theorem d_M_put_54 : decode b_M_put 54 = .ok (.aload_n 0, 1) := by decide +kernel
theorem d_M_put_55 : decode b_M_put 55 = .ok (.getfield 35, 3) := by decide +kernel
theorem d_M_put_58 : decode b_M_put 58 = .ok (.iload 7, 2) := by decide +kernel
theorem d_M_put_60 : decode b_M_put 60 = .ok (.aload_n 0, 1) := by decide +kernel
theorem d_M_put_61 : decode b_M_put 61 = .ok (.getfield 35, 3) := by decide +kernel
theorem d_M_put_64 : decode b_M_put 64 = .ok (.iload 7, 2) := by decide +kernel
theorem d_M_put_66 : decode b_M_put 66 = .ok (.iconst 1, 1) := by decide +kernel
theorem d_M_put_67 : decode b_M_put 67 = .ok (.isub, 1) := by decide +kernel
theorem d_M_put_68 : decode b_M_put 68 = .ok (.iaload, 1) := by decide +kernel
theorem d_M_put_69 : decode b_M_put 69 = .ok (.iastore, 1) := by decide +kernel
theorem d_M_put_70 : decode b_M_put 70 = .ok (.aload_n 0, 1) := by decide +kernel
theorem d_M_put_71 : decode b_M_put 71 = .ok (.getfield 38, 3) := by decide +kernel
theorem d_M_put_74 : decode b_M_put 74 = .ok (.iload 7, 2) := by decide +kernel
theorem d_M_put_76 : decode b_M_put 76 = .ok (.aload_n 0, 1) := by decide +kernel
theorem d_M_put_77 : decode b_M_put 77 = .ok (.getfield 38, 3) := by decide +kernel
theorem d_M_put_80 : decode b_M_put 80 = .ok (.iload 7, 2) := by decide +kernel
theorem d_M_put_82 : decode b_M_put 82 = .ok (.iconst 1, 1) := by decide +kernel
theorem d_M_put_83 : decode b_M_put 83 = .ok (.isub, 1) := by decide +kernel
theorem d_M_put_84 : decode b_M_put 84 = .ok (.iaload, 1) := by decide +kernel
theorem d_M_put_85 : decode b_M_put 85 = .ok (.iastore, 1) := by decide +kernel
theorem d_M_put_86 : decode b_M_put 86 = .ok (.iinc 7 (-1), 3) := by decide +kernel
theorem d_M_put_89 : decode b_M_put 89 = .ok (.goto (-86), 3) := by decide +kernel
theorem d_M_put_92 : decode b_M_put 92 = .ok (.aload_n 0, 1) := by decide +kernel
theorem d_M_put_93 : decode b_M_put 93 = .ok (.getfield 29, 3) := by decide +kernel
theorem d_M_put_96 : decode b_M_put 96 = .ok (.iload 7, 2) := by decide +kernel
theorem d_M_put_98 : decode b_M_put 98 = .ok (.lload_n 2, 1) := by decide +kernel
theorem d_M_put_99 : decode b_M_put 99 = .ok (.lastore, 1) := by decide +kernel
theorem d_M_put_100 : decode b_M_put 100 = .ok (.aload_n 0, 1) := by decide +kernel
theorem d_M_put_101 : decode b_M_put 101 = .ok (.getfield 32, 3) := by decide +kernel
theorem d_M_put_104 : decode b_M_put 104 = .ok (.iload 7, 2) := by decide +kernel
theorem d_M_put_106 : decode b_M_put 106 = .ok (.iload 4, 2) := by decide +kernel
theorem d_M_put_108 : decode b_M_put 108 = .ok (.iastore, 1) := by decide +kernel
theorem d_M_put_109 : decode b_M_put 109 = .ok (.aload_n 0, 1) := by decide +kernel
theorem d_M_put_110 : decode b_M_put 110 = .ok (.getfield 35, 3) := by decide +kernel
theorem d_M_put_113 : decode b_M_put 113 = .ok (.iload 7, 2) := by decide +kernel
theorem d_M_put_115 : decode b_M_put 115 = .ok (.iload 5, 2) := by decide +kernel
theorem d_M_put_117 : decode b_M_put 117 = .ok (.iastore, 1) := by decide +kernel
theorem d_M_put_118 : decode b_M_put 118 = .ok (.aload_n 0, 1) := by decide +kernel
theorem d_M_put_119 : decode b_M_put 119 = .ok (.getfield 38, 3) := by decide +kernel
theorem d_M_put_122 : decode b_M_put 122 = .ok (.iload 7, 2) := by decide +kernel
theorem d_M_put_124 : decode b_M_put 124 = .ok (.iload 6, 2) := by decide +kernel
theorem d_M_put_126 : decode b_M_put 126 = .ok (.iastore, 1) := by decide +kernel
theorem d_M_put_127 : decode b_M_put 127 = .ok (.return_, 1) := by decide +kernel
theorem d_M_echo_0 : decode b_M_echo 0 = .ok (.aload_n 0, 1) := by decide +kernel
theorem d_M_echo_1 : decode b_M_echo 1 = .ok (.iload_n 1, 1) := by decide +kernel
theorem d_M_echo_2 : decode b_M_echo 2 = .ok (.i2l, 1) := by decide +kernel
theorem d_M_echo_3 : decode b_M_echo 3 = .ok (.lconst 0, 1) := by decide +kernel
theorem d_M_echo_4 : decode b_M_echo 4 = .ok (.ldc2_w 120, 3) := by decide +kernel
theorem d_M_echo_7 : decode b_M_echo 7 = .ok (.invokestatic 45, 3) := by decide +kernel
theorem d_M_echo_10 : decode b_M_echo 10 = .ok (.ifCond .eq 19, 3) := by decide +kernel
theorem d_M_echo_13 : decode b_M_echo 13 = .ok (.iload_n 2, 1) := by decide +kernel
theorem d_M_echo_14 : decode b_M_echo 14 = .ok (.i2l, 1) := by decide +kernel
theorem d_M_echo_15 : decode b_M_echo 15 = .ok (.lconst 0, 1) := by decide +kernel
theorem d_M_echo_16 : decode b_M_echo 16 = .ok (.ldc2_w 122, 3) := by decide +kernel
theorem d_M_echo_19 : decode b_M_echo 19 = .ok (.invokestatic 45, 3) := by decide +kernel
theorem d_M_echo_22 : decode b_M_echo 22 = .ok (.ifCond .eq 7, 3) := by decide +kernel
theorem d_M_echo_25 : decode b_M_echo 25 = .ok (.iconst 0, 1) := by decide +kernel
theorem d_M_echo_26 : decode b_M_echo 26 = .ok (.goto 4, 3) := by decide +kernel
theorem d_M_echo_29 : decode b_M_echo 29 = .ok (.iconst 1, 1) := by decide +kernel
theorem d_M_echo_30 : decode b_M_echo 30 = .ok (.putfield 41, 3) := by decide +kernel
theorem d_M_echo_33 : decode b_M_echo 33 = .ok (.aload_n 0, 1) := by decide +kernel
theorem d_M_echo_34 : decode b_M_echo 34 = .ok (.getfield 41, 3) := by decide +kernel
theorem d_M_echo_37 : decode b_M_echo 37 = .ok (.ifCond .le 5, 3) := by decide +kernel
theorem d_M_echo_40 : decode b_M_echo 40 = .ok (.lconst 0, 1) := by decide +kernel
theorem d_M_echo_41 : decode b_M_echo 41 = .ok (.lreturn, 1) := by decide +kernel
theorem d_M_echo_42 : decode b_M_echo 42 = .ok (.aload_n 0, 1) := by decide +kernel
theorem d_M_echo_43 : decode b_M_echo 43 = .ok (.invokevirtual 124, 3) := by decide +kernel
theorem d_M_echo_46 : decode b_M_echo 46 = .ok (.iload_n 2, 1) := by decide +kernel
theorem d_M_echo_47 : decode b_M_echo 47 = .ok (.iconst 4, 1) := by decide +kernel
theorem d_M_echo_48 : decode b_M_echo 48 = .ok (.if_icmp .ge 29, 3) := by decide +kernel
theorem d_M_echo_51 : decode b_M_echo 51 = .ok (.aload_n 0, 1) := by decide +kernel
theorem d_M_echo_52 : decode b_M_echo 52 = .ok (.aload_n 0, 1) := by decide +kernel
theorem d_M_echo_53 : decode b_M_echo 53 = .ok (.getfield 32, 3) := by decide +kernel
theorem d_M_echo_56 : decode b_M_echo 56 = .ok (.iload_n 1, 1) := by decide +kernel
theorem d_M_echo_57 : decode b_M_echo 57 = .ok (.iaload, 1) := by decide +kernel
theorem d_M_echo_58 : decode b_M_echo 58 = .ok (.aload_n 0, 1) := by decide +kernel
theorem d_M_echo_59 : decode b_M_echo 59 = .ok (.getfield 35, 3) := by decide +kernel
theorem d_M_echo_62 : decode b_M_echo 62 = .ok (.iload_n 1, 1) := by decide +kernel
theorem d_M_echo_63 : decode b_M_echo 63 = .ok (.iaload, 1) := by decide +kernel
theorem d_M_echo_64 : decode b_M_echo 64 = .ok (.aload_n 0, 1) := by decide +kernel
theorem d_M_echo_65 : decode b_M_echo 65 = .ok (.getfield 38, 3) := by decide +kernel
theorem d_M_echo_68 : decode b_M_echo 68 = .ok (.iload_n 1, 1) := by decide +kernel
theorem d_M_echo_69 : decode b_M_echo 69 = .ok (.iaload, 1) := by decide +kernel
theorem d_M_echo_70 : decode b_M_echo 70 = .ok (.iload_n 2, 1) := by decide +kernel
theorem d_M_echo_71 : decode b_M_echo 71 = .ok (.invokevirtual 97, 3) := by decide +kernel
theorem d_M_echo_74 : decode b_M_echo 74 = .ok (.goto 40, 3) := by decide +kernel
theorem d_M_echo_77 : decode b_M_echo 77 = .ok (.iload_n 2, 1) := by decide +kernel
theorem d_M_echo_78 : decode b_M_echo 78 = .ok (.iconst 4, 1) := by decide +kernel
theorem d_M_echo_79 : decode b_M_echo 79 = .ok (.if_icmp .ne 13, 3) := by decide +kernel
theorem d_M_echo_82 : decode b_M_echo 82 = .ok (.aload_n 0, 1) := by decide +kernel
theorem d_M_echo_83 : decode b_M_echo 83 = .ok (.getfield 32, 3) := by decide +kernel
theorem d_M_echo_86 : decode b_M_echo 86 = .ok (.iload_n 1, 1) := by decide +kernel
theorem d_M_echo_87 : decode b_M_echo 87 = .ok (.iaload, 1) := by decide +kernel
theorem d_M_echo_88 : decode b_M_echo 88 = .ok (.i2l, 1) := by decide +kernel
theorem d_M_echo_89 : decode b_M_echo 89 = .ok (.goto 25, 3) := by decide +kernel
theorem d_M_echo_92 : decode b_M_echo 92 = .ok (.iload_n 2, 1) := by decide +kernel
theorem d_M_echo_93 : decode b_M_echo 93 = .ok (.iconst 5, 1) := by decide +kernel
theorem d_M_echo_94 : decode b_M_echo 94 = .ok (.if_icmp .ne 13, 3) := by decide +kernel
theorem d_M_echo_97 : decode b_M_echo 97 = .ok (.aload_n 0, 1) := by decide +kernel
theorem d_M_echo_98 : decode b_M_echo 98 = .ok (.getfield 35, 3) := by decide +kernel
theorem d_M_echo_101 : decode b_M_echo 101 = .ok (.iload_n 1, 1) := by decide +kernel
theorem d_M_echo_102 : decode b_M_echo 102 = .ok (.iaload, 1) := by decide +kernel
theorem d_M_echo_103 : decode b_M_echo 103 = .ok (.i2l, 1) := by decide +kernel
theorem d_M_echo_104 : decode b_M_echo 104 = .ok (.goto 10, 3) := by decide +kernel
theorem d_M_echo_107 : decode b_M_echo 107 = .ok (.aload_n 0, 1) := by decide +kernel
theorem d_M_echo_108 : decode b_M_echo 108 = .ok (.getfield 38, 3) := by decide +kernel
theorem d_M_echo_111 : decode b_M_echo 111 = .ok (.iload_n 1, 1) := by decide +kernel
theorem d_M_echo_112 : decode b_M_echo 112 = .ok (.iaload, 1) := by decide +kernel
theorem d_M_echo_113 : decode b_M_echo 113 = .ok (.i2l, 1) := by decide +kernel
theorem d_M_echo_114 : decode b_M_echo 114 = .ok (.lreturn, 1) := by decide +kernel
theorem d_M_place_0 : decode b_M_place 0 = .ok (.aload_n 0, 1) := by decide +kernel
theorem d_M_place_1 : decode b_M_place 1 = .ok (.iload_n 1, 1) := by decide +kernel
theorem d_M_place_2 : decode b_M_place 2 = .ok (.iload_n 2, 1) := by decide +kernel
theorem d_M_place_3 : decode b_M_place 3 = .ok (.iload_n 3, 1) := by decide +kernel
theorem d_M_place_4 : decode b_M_place 4 = .ok (.invokestatic 92, 3) := by decide +kernel
theorem d_M_place_7 : decode b_M_place 7 = .ok (.ifCond .eq 7, 3) := by decide +kernel
theorem d_M_place_10 : decode b_M_place 10 = .ok (.iconst 0, 1) := by decide +kernel
theorem d_M_place_11 : decode b_M_place 11 = .ok (.goto 4, 3) := by decide +kernel
theorem d_M_place_14 : decode b_M_place 14 = .ok (.iconst 1, 1) := by decide +kernel
theorem d_M_place_15 : decode b_M_place 15 = .ok (.putfield 41, 3) := by decide +kernel
theorem d_M_place_18 : decode b_M_place 18 = .ok (.aload_n 0, 1) := by decide +kernel
theorem d_M_place_19 : decode b_M_place 19 = .ok (.getfield 41, 3) := by decide +kernel
theorem d_M_place_22 : decode b_M_place 22 = .ok (.ifCond .le 5, 3) := by decide +kernel
theorem d_M_place_25 : decode b_M_place 25 = .ok (.iconst 0, 1) := by decide +kernel
theorem d_M_place_26 : decode b_M_place 26 = .ok (.ireturn, 1) := by decide +kernel
theorem d_M_place_27 : decode b_M_place 27 = .ok (.aload_n 0, 1) := by decide +kernel
theorem d_M_place_28 : decode b_M_place 28 = .ok (.invokevirtual 124, 3) := by decide +kernel
theorem d_M_place_31 : decode b_M_place 31 = .ok (.iconst (-1), 1) := by decide +kernel
theorem d_M_place_32 : decode b_M_place 32 = .ok (.istore 4, 2) := by decide +kernel
theorem d_M_place_34 : decode b_M_place 34 = .ok (.iconst 0, 1) := by decide +kernel
theorem d_M_place_35 : decode b_M_place 35 = .ok (.istore 5, 2) := by decide +kernel
theorem d_M_place_37 : decode b_M_place 37 = .ok (.iload 5, 2) := by decide +kernel
theorem d_M_place_39 : decode b_M_place 39 = .ok (.sipush 500, 3) := by decide +kernel
theorem d_M_place_42 : decode b_M_place 42 = .ok (.if_icmp .ge 51, 3) := by decide +kernel
theorem d_M_place_45 : decode b_M_place 45 = .ok (.aload_n 0, 1) := by decide +kernel
theorem d_M_place_46 : decode b_M_place 46 = .ok (.getfield 32, 3) := by decide +kernel
theorem d_M_place_49 : decode b_M_place 49 = .ok (.iload 5, 2) := by decide +kernel
theorem d_M_place_51 : decode b_M_place 51 = .ok (.iaload, 1) := by decide +kernel
theorem d_M_place_52 : decode b_M_place 52 = .ok (.iload_n 1, 1) := by decide +kernel
theorem d_M_place_53 : decode b_M_place 53 = .ok (.if_icmp .ne 30, 3) := by decide +kernel
theorem d_M_place_56 : decode b_M_place 56 = .ok (.aload_n 0, 1) := by decide +kernel
theorem d_M_place_57 : decode b_M_place 57 = .ok (.getfield 35, 3) := by decide +kernel
theorem d_M_place_60 : decode b_M_place 60 = .ok (.iload 5, 2) := by decide +kernel
theorem d_M_place_62 : decode b_M_place 62 = .ok (.iaload, 1) := by decide +kernel
theorem d_M_place_63 : decode b_M_place 63 = .ok (.iload_n 2, 1) := by decide +kernel
theorem d_M_place_64 : decode b_M_place 64 = .ok (.if_icmp .ne 19, 3) := by decide +kernel
theorem d_M_place_67 : decode b_M_place 67 = .ok (.aload_n 0, 1) := by decide +kernel
theorem d_M_place_68 : decode b_M_place 68 = .ok (.getfield 38, 3) := by decide +kernel
theorem d_M_place_71 : decode b_M_place 71 = .ok (.iload 5, 2) := by decide +kernel
theorem d_M_place_73 : decode b_M_place 73 = .ok (.iaload, 1) := by decide +kernel
theorem d_M_place_74 : decode b_M_place 74 = .ok (.iload_n 3, 1) := by decide +kernel
theorem d_M_place_75 : decode b_M_place 75 = .ok (.if_icmp .ne 8, 3) := by decide +kernel
theorem d_M_place_78 : decode b_M_place 78 = .ok (.iload 5, 2) := by decide +kernel
theorem d_M_place_80 : decode b_M_place 80 = .ok (.goto 5, 3) := by decide +kernel
theorem d_M_place_83 : decode b_M_place 83 = .ok (.iload 4, 2) := by decide +kernel
theorem d_M_place_85 : decode b_M_place 85 = .ok (.istore 4, 2) := by decide +kernel
theorem d_M_place_87 : decode b_M_place 87 = .ok (.iinc 5 1, 3) := by decide +kernel
theorem d_M_place_90 : decode b_M_place 90 = .ok (.goto (-53), 3) := by decide +kernel
theorem d_M_place_93 : decode b_M_place 93 = .ok (.iload 4, 2) := by decide +kernel
theorem d_M_place_95 : decode b_M_place 95 = .ok (.ireturn, 1) := by decide +kernel
theorem d_M_countUntil_0 : decode b_M_countUntil 0 = .ok (.aload_n 0, 1) := by decide +kernel
theorem d_M_countUntil_1 : decode b_M_countUntil 1 = .ok (.invokevirtual 124, 3) := by decide +kernel
theorem d_M_countUntil_4 : decode b_M_countUntil 4 = .ok (.iconst 0, 1) := by decide +kernel
theorem d_M_countUntil_5 : decode b_M_countUntil 5 = .ok (.istore_n 3, 1) := by decide +kernel
theorem d_M_countUntil_6 : decode b_M_countUntil 6 = .ok (.iload_n 3, 1) := by decide +kernel
theorem d_M_countUntil_7 : decode b_M_countUntil 7 = .ok (.sipush 500, 3) := by decide +kernel
theorem d_M_countUntil_10 : decode b_M_countUntil 10 = .ok (.if_icmp .ge 20, 3) := by decide +kernel
theorem d_M_countUntil_13 : decode b_M_countUntil 13 = .ok (.aload_n 0, 1) := by decide +kernel
theorem d_M_countUntil_14 : decode b_M_countUntil 14 = .ok (.getfield 29, 3) := by decide +kernel
theorem d_M_countUntil_17 : decode b_M_countUntil 17 = .ok (.iload_n 3, 1) := by decide +kernel
theorem d_M_countUntil_18 : decode b_M_countUntil 18 = .ok (.laload, 1) := by decide +kernel
theorem d_M_countUntil_19 : decode b_M_countUntil 19 = .ok (.lload_n 1, 1) := by decide +kernel
theorem d_M_countUntil_20 : decode b_M_countUntil 20 = .ok (.lcmp, 1) := by decide +kernel
end
section
theorem d_M_countUntil_21 : decode b_M_countUntil 21 = .ok (.ifCond .gt 9, 3) := by decide +kernel
theorem d_M_countUntil_24 : decode b_M_countUntil 24 = .ok (.iinc 3 1, 3) := by decide +kernel
theorem d_M_countUntil_27 : decode b_M_countUntil 27 = .ok (.goto (-21), 3) := by decide +kernel
theorem d_M_countUntil_30 : decode b_M_countUntil 30 = .ok (.iload_n 3, 1) := by decide +kernel
theorem d_M_countUntil_31 : decode b_M_countUntil 31 = .ok (.ireturn, 1) := by decide +kernel
theorem d_M_until_0 : decode b_M_until 0 = .ok (.aload_n 0, 1) := by decide +kernel
theorem d_M_until_1 : decode b_M_until 1 = .ok (.lload_n 1, 1) := by decide +kernel
theorem d_M_until_2 : decode b_M_until 2 = .ok (.lconst 0, 1) := by decide +kernel
theorem d_M_until_3 : decode b_M_until 3 = .ok (.lcmp, 1) := by decide +kernel
theorem d_M_until_4 : decode b_M_until 4 = .ok (.ifCond .lt 7, 3) := by decide +kernel
theorem d_M_until_7 : decode b_M_until 7 = .ok (.iconst 0, 1) := by decide +kernel
theorem d_M_until_8 : decode b_M_until 8 = .ok (.goto 4, 3) := by decide +kernel
theorem d_M_until_11 : decode b_M_until 11 = .ok (.iconst 1, 1) := by decide +kernel
theorem d_M_until_12 : decode b_M_until 12 = .ok (.putfield 41, 3) := by decide +kernel
theorem d_M_until_15 : decode b_M_until 15 = .ok (.aload_n 0, 1) := by decide +kernel
theorem d_M_until_16 : decode b_M_until 16 = .ok (.getfield 41, 3) := by decide +kernel
theorem d_M_until_19 : decode b_M_until 19 = .ok (.ifCond .le 7, 3) := by decide +kernel
theorem d_M_until_22 : decode b_M_until 22 = .ok (.iconst 0, 1) := by decide +kernel
theorem d_M_until_23 : decode b_M_until 23 = .ok (.goto 8, 3) := by decide +kernel
theorem d_M_until_26 : decode b_M_until 26 = .ok (.aload_n 0, 1) := by decide +kernel
theorem d_M_until_27 : decode b_M_until 27 = .ok (.lload_n 1, 1) := by decide +kernel
theorem d_M_until_28 : decode b_M_until 28 = .ok (.invokevirtual 127, 3) := by decide +kernel
theorem d_M_until_31 : decode b_M_until 31 = .ok (.ireturn, 1) := by decide +kernel
theorem d_M_loudness_0 : decode b_M_loudness 0 = .ok (.aload_n 0, 1) := by decide +kernel
theorem d_M_loudness_1 : decode b_M_loudness 1 = .ok (.aload_n 0, 1) := by decide +kernel
theorem d_M_loudness_2 : decode b_M_loudness 2 = .ok (.getfield 32, 3) := by decide +kernel
theorem d_M_loudness_5 : decode b_M_loudness 5 = .ok (.iload_n 1, 1) := by decide +kernel
theorem d_M_loudness_6 : decode b_M_loudness 6 = .ok (.iaload, 1) := by decide +kernel
theorem d_M_loudness_7 : decode b_M_loudness 7 = .ok (.aload_n 0, 1) := by decide +kernel
theorem d_M_loudness_8 : decode b_M_loudness 8 = .ok (.getfield 35, 3) := by decide +kernel
theorem d_M_loudness_11 : decode b_M_loudness 11 = .ok (.iload_n 1, 1) := by decide +kernel
theorem d_M_loudness_12 : decode b_M_loudness 12 = .ok (.iaload, 1) := by decide +kernel
theorem d_M_loudness_13 : decode b_M_loudness 13 = .ok (.aload_n 0, 1) := by decide +kernel
theorem d_M_loudness_14 : decode b_M_loudness 14 = .ok (.getfield 38, 3) := by decide +kernel
theorem d_M_loudness_17 : decode b_M_loudness 17 = .ok (.iload_n 1, 1) := by decide +kernel
theorem d_M_loudness_18 : decode b_M_loudness 18 = .ok (.iaload, 1) := by decide +kernel
theorem d_M_loudness_19 : decode b_M_loudness 19 = .ok (.iconst 2, 1) := by decide +kernel
theorem d_M_loudness_20 : decode b_M_loudness 20 = .ok (.invokevirtual 97, 3) := by decide +kernel
theorem d_M_loudness_23 : decode b_M_loudness 23 = .ok (.lreturn, 1) := by decide +kernel
theorem d_M_first_0 : decode b_M_first 0 = .ok (.aload_n 0, 1) := by decide +kernel
theorem d_M_first_1 : decode b_M_first 1 = .ok (.invokevirtual 124, 3) := by decide +kernel
theorem d_M_first_4 : decode b_M_first 4 = .ok (.lconst 0, 1) := by decide +kernel
theorem d_M_first_5 : decode b_M_first 5 = .ok (.lstore_n 2, 1) := by decide +kernel
theorem d_M_first_6 : decode b_M_first 6 = .ok (.iconst 0, 1) := by decide +kernel
theorem d_M_first_7 : decode b_M_first 7 = .ok (.istore 4, 2) := by decide +kernel
theorem d_M_first_9 : decode b_M_first 9 = .ok (.iload 4, 2) := by decide +kernel
theorem d_M_first_11 : decode b_M_first 11 = .ok (.iload_n 1, 1) := by decide +kernel
theorem d_M_first_12 : decode b_M_first 12 = .ok (.if_icmp .ge 18, 3) := by decide +kernel
theorem d_M_first_15 : decode b_M_first 15 = .ok (.lload_n 2, 1) := by decide +kernel
theorem d_M_first_16 : decode b_M_first 16 = .ok (.aload_n 0, 1) := by decide +kernel
theorem d_M_first_17 : decode b_M_first 17 = .ok (.iload 4, 2) := by decide +kernel
theorem d_M_first_19 : decode b_M_first 19 = .ok (.invokevirtual 131, 3) := by decide +kernel
theorem d_M_first_22 : decode b_M_first 22 = .ok (.ladd, 1) := by decide +kernel
theorem d_M_first_23 : decode b_M_first 23 = .ok (.lstore_n 2, 1) := by decide +kernel
theorem d_M_first_24 : decode b_M_first 24 = .ok (.iinc 4 1, 3) := by decide +kernel
theorem d_M_first_27 : decode b_M_first 27 = .ok (.goto (-18), 3) := by decide +kernel
theorem d_M_first_30 : decode b_M_first 30 = .ok (.lload_n 2, 1) := by decide +kernel
theorem d_M_first_31 : decode b_M_first 31 = .ok (.lreturn, 1) := by decide +kernel
theorem d_M_loud_0 : decode b_M_loud 0 = .ok (.aload_n 0, 1) := by decide +kernel
theorem d_M_loud_1 : decode b_M_loud 1 = .ok (.iload_n 1, 1) := by decide +kernel
theorem d_M_loud_2 : decode b_M_loud 2 = .ok (.i2l, 1) := by decide +kernel
theorem d_M_loud_3 : decode b_M_loud 3 = .ok (.lconst 0, 1) := by decide +kernel
theorem d_M_loud_4 : decode b_M_loud 4 = .ok (.ldc2_w 120, 3) := by decide +kernel
theorem d_M_loud_7 : decode b_M_loud 7 = .ok (.invokestatic 45, 3) := by decide +kernel
theorem d_M_loud_10 : decode b_M_loud 10 = .ok (.ifCond .eq 20, 3) := by decide +kernel
theorem d_M_loud_13 : decode b_M_loud 13 = .ok (.iload_n 2, 1) := by decide +kernel
theorem d_M_loud_14 : decode b_M_loud 14 = .ok (.i2l, 1) := by decide +kernel
theorem d_M_loud_15 : decode b_M_loud 15 = .ok (.iload_n 1, 1) := by decide +kernel
theorem d_M_loud_16 : decode b_M_loud 16 = .ok (.i2l, 1) := by decide +kernel
theorem d_M_loud_17 : decode b_M_loud 17 = .ok (.ldc2_w 120, 3) := by decide +kernel
theorem d_M_loud_20 : decode b_M_loud 20 = .ok (.invokestatic 45, 3) := by decide +kernel
theorem d_M_loud_23 : decode b_M_loud 23 = .ok (.ifCond .eq 7, 3) := by decide +kernel
theorem d_M_loud_26 : decode b_M_loud 26 = .ok (.iconst 0, 1) := by decide +kernel
theorem d_M_loud_27 : decode b_M_loud 27 = .ok (.goto 4, 3) := by decide +kernel
theorem d_M_loud_30 : decode b_M_loud 30 = .ok (.iconst 1, 1) := by decide +kernel
theorem d_M_loud_31 : decode b_M_loud 31 = .ok (.putfield 41, 3) := by decide +kernel
theorem d_M_loud_34 : decode b_M_loud 34 = .ok (.aload_n 0, 1) := by decide +kernel
theorem d_M_loud_35 : decode b_M_loud 35 = .ok (.getfield 41, 3) := by decide +kernel
theorem d_M_loud_38 : decode b_M_loud 38 = .ok (.ifCond .le 7, 3) := by decide +kernel
theorem d_M_loud_41 : decode b_M_loud 41 = .ok (.lconst 0, 1) := by decide +kernel
theorem d_M_loud_42 : decode b_M_loud 42 = .ok (.goto 16, 3) := by decide +kernel
theorem d_M_loud_45 : decode b_M_loud 45 = .ok (.aload_n 0, 1) := by decide +kernel
theorem d_M_loud_46 : decode b_M_loud 46 = .ok (.iload_n 2, 1) := by decide +kernel
theorem d_M_loud_47 : decode b_M_loud 47 = .ok (.iconst 1, 1) := by decide +kernel
theorem d_M_loud_48 : decode b_M_loud 48 = .ok (.iadd, 1) := by decide +kernel
theorem d_M_loud_49 : decode b_M_loud 49 = .ok (.invokevirtual 135, 3) := by decide +kernel
theorem d_M_loud_52 : decode b_M_loud 52 = .ok (.aload_n 0, 1) := by decide +kernel
theorem d_M_loud_53 : decode b_M_loud 53 = .ok (.iload_n 1, 1) := by decide +kernel
theorem d_M_loud_54 : decode b_M_loud 54 = .ok (.invokevirtual 135, 3) := by decide +kernel
theorem d_M_loud_57 : decode b_M_loud 57 = .ok (.lsub, 1) := by decide +kernel
theorem d_M_loud_58 : decode b_M_loud 58 = .ok (.lreturn, 1) := by decide +kernel
theorem d_M_common_0 : decode b_M_common 0 = .ok (.lload_n 0, 1) := by decide +kernel
theorem d_M_common_1 : decode b_M_common 1 = .ok (.lstore 4, 2) := by decide +kernel
theorem d_M_common_3 : decode b_M_common 3 = .ok (.lload_n 2, 1) := by decide +kernel
theorem d_M_common_4 : decode b_M_common 4 = .ok (.lstore 6, 2) := by decide +kernel
theorem d_M_common_6 : decode b_M_common 6 = .ok (.lload 6, 2) := by decide +kernel
theorem d_M_common_8 : decode b_M_common 8 = .ok (.lconst 0, 1) := by decide +kernel
theorem d_M_common_9 : decode b_M_common 9 = .ok (.lcmp, 1) := by decide +kernel
theorem d_M_common_10 : decode b_M_common 10 = .ok (.ifCond .eq 21, 3) := by decide +kernel
theorem d_M_common_13 : decode b_M_common 13 = .ok (.lload 4, 2) := by decide +kernel
theorem d_M_common_15 : decode b_M_common 15 = .ok (.lload 6, 2) := by decide +kernel
theorem d_M_common_17 : decode b_M_common 17 = .ok (.lrem, 1) := by decide +kernel
theorem d_M_common_18 : decode b_M_common 18 = .ok (.lstore 8, 2) := by decide +kernel
theorem d_M_common_20 : decode b_M_common 20 = .ok (.lload 6, 2) := by decide +kernel
theorem d_M_common_22 : decode b_M_common 22 = .ok (.lstore 4, 2) := by decide +kernel
theorem d_M_common_24 : decode b_M_common 24 = .ok (.lload 8, 2) := by decide +kernel
theorem d_M_common_26 : decode b_M_common 26 = .ok (.lstore 6, 2) := by decide +kernel
theorem d_M_common_28 : decode b_M_common 28 = .ok (.goto (-22), 3) := by decide +kernel
theorem d_M_common_31 : decode b_M_common 31 = .ok (.lload 4, 2) := by decide +kernel
theorem d_M_common_33 : decode b_M_common 33 = .ok (.lreturn, 1) := by decide +kernel
theorem d_M_early_0 : decode b_M_early 0 = .ok (.aload_n 0, 1) := by decide +kernel
theorem d_M_early_1 : decode b_M_early 1 = .ok (.lload_n 1, 1) := by decide +kernel
theorem d_M_early_2 : decode b_M_early 2 = .ok (.lconst 0, 1) := by decide +kernel
theorem d_M_early_3 : decode b_M_early 3 = .ok (.lcmp, 1) := by decide +kernel
theorem d_M_early_4 : decode b_M_early 4 = .ok (.ifCond .lt 17, 3) := by decide +kernel
theorem d_M_early_7 : decode b_M_early 7 = .ok (.iload_n 3, 1) := by decide +kernel
theorem d_M_early_8 : decode b_M_early 8 = .ok (.i2l, 1) := by decide +kernel
theorem d_M_early_9 : decode b_M_early 9 = .ok (.lconst 0, 1) := by decide +kernel
theorem d_M_early_10 : decode b_M_early 10 = .ok (.lconst 1, 1) := by decide +kernel
theorem d_M_early_11 : decode b_M_early 11 = .ok (.invokestatic 45, 3) := by decide +kernel
theorem d_M_early_14 : decode b_M_early 14 = .ok (.ifCond .eq 7, 3) := by decide +kernel
theorem d_M_early_17 : decode b_M_early 17 = .ok (.iconst 0, 1) := by decide +kernel
theorem d_M_early_18 : decode b_M_early 18 = .ok (.goto 4, 3) := by decide +kernel
theorem d_M_early_21 : decode b_M_early 21 = .ok (.iconst 1, 1) := by decide +kernel
theorem d_M_early_22 : decode b_M_early 22 = .ok (.putfield 41, 3) := by decide +kernel
theorem d_M_early_25 : decode b_M_early 25 = .ok (.aload_n 0, 1) := by decide +kernel
theorem d_M_early_26 : decode b_M_early 26 = .ok (.getfield 41, 3) := by decide +kernel
theorem d_M_early_29 : decode b_M_early 29 = .ok (.ifCond .le 5, 3) := by decide +kernel
theorem d_M_early_32 : decode b_M_early 32 = .ok (.lconst 0, 1) := by decide +kernel
theorem d_M_early_33 : decode b_M_early 33 = .ok (.lreturn, 1) := by decide +kernel
theorem d_M_early_34 : decode b_M_early 34 = .ok (.aload_n 0, 1) := by decide +kernel
theorem d_M_early_35 : decode b_M_early 35 = .ok (.sipush 500, 3) := by decide +kernel
theorem d_M_early_38 : decode b_M_early 38 = .ok (.invokevirtual 135, 3) := by decide +kernel
theorem d_M_early_41 : decode b_M_early 41 = .ok (.lstore 4, 2) := by decide +kernel
theorem d_M_early_43 : decode b_M_early 43 = .ok (.lload 4, 2) := by decide +kernel
theorem d_M_early_45 : decode b_M_early 45 = .ok (.lconst 0, 1) := by decide +kernel
theorem d_M_early_46 : decode b_M_early 46 = .ok (.lcmp, 1) := by decide +kernel
theorem d_M_early_47 : decode b_M_early 47 = .ok (.ifCond .ne 6, 3) := by decide +kernel
theorem d_M_early_50 : decode b_M_early 50 = .ok (.iload_n 3, 1) := by decide +kernel
theorem d_M_early_51 : decode b_M_early 51 = .ok (.i2l, 1) := by decide +kernel
theorem d_M_early_52 : decode b_M_early 52 = .ok (.lreturn, 1) := by decide +kernel
theorem d_M_early_53 : decode b_M_early 53 = .ok (.aload_n 0, 1) := by decide +kernel
theorem d_M_early_54 : decode b_M_early 54 = .ok (.aload_n 0, 1) := by decide +kernel
theorem d_M_early_55 : decode b_M_early 55 = .ok (.lload_n 1, 1) := by decide +kernel
theorem d_M_early_56 : decode b_M_early 56 = .ok (.invokevirtual 127, 3) := by decide +kernel
theorem d_M_early_59 : decode b_M_early 59 = .ok (.invokevirtual 135, 3) := by decide +kernel
theorem d_M_early_62 : decode b_M_early 62 = .ok (.lstore 6, 2) := by decide +kernel
theorem d_M_early_64 : decode b_M_early 64 = .ok (.lload 4, 2) := by decide +kernel
theorem d_M_early_66 : decode b_M_early 66 = .ok (.lload 6, 2) := by decide +kernel
theorem d_M_early_68 : decode b_M_early 68 = .ok (.invokestatic 138, 3) := by decide +kernel
theorem d_M_early_71 : decode b_M_early 71 = .ok (.lstore 8, 2) := by decide +kernel
theorem d_M_early_73 : decode b_M_early 73 = .ok (.iload_n 3, 1) := by decide +kernel
theorem d_M_early_74 : decode b_M_early 74 = .ok (.ifCond .ne 11, 3) := by decide +kernel
theorem d_M_early_77 : decode b_M_early 77 = .ok (.lload 6, 2) := by decide +kernel
theorem d_M_early_79 : decode b_M_early 79 = .ok (.lload 8, 2) := by decide +kernel
theorem d_M_early_81 : decode b_M_early 81 = .ok (.ldiv, 1) := by decide +kernel
theorem d_M_early_82 : decode b_M_early 82 = .ok (.goto 8, 3) := by decide +kernel
theorem d_M_early_85 : decode b_M_early 85 = .ok (.lload 4, 2) := by decide +kernel
theorem d_M_early_87 : decode b_M_early 87 = .ok (.lload 8, 2) := by decide +kernel
theorem d_M_early_89 : decode b_M_early 89 = .ok (.ldiv, 1) := by decide +kernel
theorem d_M_early_90 : decode b_M_early 90 = .ok (.lreturn, 1) := by decide +kernel
theorem d_M_enough_0 : decode b_M_enough 0 = .ok (.aload_n 0, 1) := by decide +kernel
theorem d_M_enough_1 : decode b_M_enough 1 = .ok (.iload_n 1, 1) := by decide +kernel
theorem d_M_enough_2 : decode b_M_enough 2 = .ok (.i2l, 1) := by decide +kernel
theorem d_M_enough_3 : decode b_M_enough 3 = .ok (.lconst 0, 1) := by decide +kernel
theorem d_M_enough_4 : decode b_M_enough 4 = .ok (.ldc2_w 59, 3) := by decide +kernel
theorem d_M_enough_7 : decode b_M_enough 7 = .ok (.invokestatic 45, 3) := by decide +kernel
theorem d_M_enough_10 : decode b_M_enough 10 = .ok (.ifCond .eq 7, 3) := by decide +kernel
theorem d_M_enough_13 : decode b_M_enough 13 = .ok (.iconst 0, 1) := by decide +kernel
theorem d_M_enough_14 : decode b_M_enough 14 = .ok (.goto 4, 3) := by decide +kernel
theorem d_M_enough_17 : decode b_M_enough 17 = .ok (.iconst 1, 1) := by decide +kernel
theorem d_M_enough_18 : decode b_M_enough 18 = .ok (.putfield 41, 3) := by decide +kernel
theorem d_M_enough_21 : decode b_M_enough 21 = .ok (.aload_n 0, 1) := by decide +kernel
theorem d_M_enough_22 : decode b_M_enough 22 = .ok (.getfield 41, 3) := by decide +kernel
theorem d_M_enough_25 : decode b_M_enough 25 = .ok (.ifCond .le 5, 3) := by decide +kernel
theorem d_M_enough_28 : decode b_M_enough 28 = .ok (.iconst 0, 1) := by decide +kernel
theorem d_M_enough_29 : decode b_M_enough 29 = .ok (.ireturn, 1) := by decide +kernel
theorem d_M_enough_30 : decode b_M_enough 30 = .ok (.aload_n 0, 1) := by decide +kernel
theorem d_M_enough_31 : decode b_M_enough 31 = .ok (.sipush 500, 3) := by decide +kernel
theorem d_M_enough_34 : decode b_M_enough 34 = .ok (.invokevirtual 135, 3) := by decide +kernel
theorem d_M_enough_37 : decode b_M_enough 37 = .ok (.iload_n 1, 1) := by decide +kernel
theorem d_M_enough_38 : decode b_M_enough 38 = .ok (.i2l, 1) := by decide +kernel
theorem d_M_enough_39 : decode b_M_enough 39 = .ok (.lmul, 1) := by decide +kernel
theorem d_M_enough_40 : decode b_M_enough 40 = .ok (.lstore_n 2, 1) := by decide +kernel
theorem d_M_enough_41 : decode b_M_enough 41 = .ok (.lconst 0, 1) := by decide +kernel
theorem d_M_enough_42 : decode b_M_enough 42 = .ok (.lstore 4, 2) := by decide +kernel
theorem d_M_enough_44 : decode b_M_enough 44 = .ok (.iconst (-1), 1) := by decide +kernel
theorem d_M_enough_45 : decode b_M_enough 45 = .ok (.istore 6, 2) := by decide +kernel
theorem d_M_enough_47 : decode b_M_enough 47 = .ok (.iload 6, 2) := by decide +kernel
theorem d_M_enough_49 : decode b_M_enough 49 = .ok (.ifCond .lt 14, 3) := by decide +kernel
theorem d_M_enough_52 : decode b_M_enough 52 = .ok (.lload 4, 2) := by decide +kernel
theorem d_M_enough_54 : decode b_M_enough 54 = .ok (.ldc2_w 59, 3) := by decide +kernel
theorem d_M_enough_57 : decode b_M_enough 57 = .ok (.lmul, 1) := by decide +kernel
theorem d_M_enough_58 : decode b_M_enough 58 = .ok (.lload_n 2, 1) := by decide +kernel
theorem d_M_enough_59 : decode b_M_enough 59 = .ok (.lcmp, 1) := by decide +kernel
theorem d_M_enough_60 : decode b_M_enough 60 = .ok (.ifCond .ge 20, 3) := by decide +kernel
theorem d_M_enough_63 : decode b_M_enough 63 = .ok (.iinc 6 1, 3) := by decide +kernel
theorem d_M_enough_66 : decode b_M_enough 66 = .ok (.lload 4, 2) := by decide +kernel
theorem d_M_enough_68 : decode b_M_enough 68 = .ok (.aload_n 0, 1) := by decide +kernel
theorem d_M_enough_69 : decode b_M_enough 69 = .ok (.iload 6, 2) := by decide +kernel
theorem d_M_enough_71 : decode b_M_enough 71 = .ok (.invokevirtual 131, 3) := by decide +kernel
theorem d_M_enough_74 : decode b_M_enough 74 = .ok (.ladd, 1) := by decide +kernel
theorem d_M_enough_75 : decode b_M_enough 75 = .ok (.lstore 4, 2) := by decide +kernel
theorem d_M_enough_77 : decode b_M_enough 77 = .ok (.goto (-30), 3) := by decide +kernel
theorem d_M_enough_80 : decode b_M_enough 80 = .ok (.iload 6, 2) := by decide +kernel
theorem d_M_enough_82 : decode b_M_enough 82 = .ok (.ireturn, 1) := by decide +kernel
theorem d_M_loudest_0 : decode b_M_loudest 0 = .ok (.aload_n 0, 1) := by decide +kernel
theorem d_M_loudest_1 : decode b_M_loudest 1 = .ok (.iload_n 1, 1) := by decide +kernel
theorem d_M_loudest_2 : decode b_M_loudest 2 = .ok (.i2l, 1) := by decide +kernel
theorem d_M_loudest_3 : decode b_M_loudest 3 = .ok (.ldc2_w 142, 3) := by decide +kernel
theorem d_M_loudest_6 : decode b_M_loudest 6 = .ok (.ldc2_w 120, 3) := by decide +kernel
theorem d_M_loudest_9 : decode b_M_loudest 9 = .ok (.invokestatic 45, 3) := by decide +kernel
theorem d_M_loudest_12 : decode b_M_loudest 12 = .ok (.ifCond .eq 7, 3) := by decide +kernel
theorem d_M_loudest_15 : decode b_M_loudest 15 = .ok (.iconst 0, 1) := by decide +kernel
theorem d_M_loudest_16 : decode b_M_loudest 16 = .ok (.goto 4, 3) := by decide +kernel
theorem d_M_loudest_19 : decode b_M_loudest 19 = .ok (.iconst 1, 1) := by decide +kernel
theorem d_M_loudest_20 : decode b_M_loudest 20 = .ok (.putfield 41, 3) := by decide +kernel
theorem d_M_loudest_23 : decode b_M_loudest 23 = .ok (.aload_n 0, 1) := by decide +kernel
theorem d_M_loudest_24 : decode b_M_loudest 24 = .ok (.getfield 41, 3) := by decide +kernel
theorem d_M_loudest_27 : decode b_M_loudest 27 = .ok (.ifCond .le 5, 3) := by decide +kernel
theorem d_M_loudest_30 : decode b_M_loudest 30 = .ok (.iconst 0, 1) := by decide +kernel
theorem d_M_loudest_31 : decode b_M_loudest 31 = .ok (.ireturn, 1) := by decide +kernel
theorem d_M_loudest_32 : decode b_M_loudest 32 = .ok (.aload_n 0, 1) := by decide +kernel
theorem d_M_loudest_33 : decode b_M_loudest 33 = .ok (.invokevirtual 124, 3) := by decide +kernel
theorem d_M_loudest_36 : decode b_M_loudest 36 = .ok (.iconst (-1), 1) := by decide +kernel
theorem d_M_loudest_37 : decode b_M_loudest 37 = .ok (.istore_n 2, 1) := by decide +kernel
theorem d_M_loudest_38 : decode b_M_loudest 38 = .ok (.iload_n 1, 1) := by decide +kernel
theorem d_M_loudest_39 : decode b_M_loudest 39 = .ok (.iconst 1, 1) := by decide +kernel
theorem d_M_loudest_40 : decode b_M_loudest 40 = .ok (.iadd, 1) := by decide +kernel
theorem d_M_loudest_41 : decode b_M_loudest 41 = .ok (.istore_n 3, 1) := by decide +kernel
theorem d_M_loudest_42 : decode b_M_loudest 42 = .ok (.iload_n 3, 1) := by decide +kernel
theorem d_M_loudest_43 : decode b_M_loudest 43 = .ok (.sipush 500, 3) := by decide +kernel
theorem d_M_loudest_46 : decode b_M_loudest 46 = .ok (.if_icmp .ge 33, 3) := by decide +kernel
theorem d_M_loudest_49 : decode b_M_loudest 49 = .ok (.iload_n 2, 1) := by decide +kernel
theorem d_M_loudest_50 : decode b_M_loudest 50 = .ok (.ifCond .lt 17, 3) := by decide +kernel
theorem d_M_loudest_53 : decode b_M_loudest 53 = .ok (.aload_n 0, 1) := by decide +kernel
theorem d_M_loudest_54 : decode b_M_loudest 54 = .ok (.iload_n 3, 1) := by decide +kernel
theorem d_M_loudest_55 : decode b_M_loudest 55 = .ok (.invokevirtual 131, 3) := by decide +kernel
theorem d_M_loudest_58 : decode b_M_loudest 58 = .ok (.aload_n 0, 1) := by decide +kernel
theorem d_M_loudest_59 : decode b_M_loudest 59 = .ok (.iload_n 2, 1) := by decide +kernel
theorem d_M_loudest_60 : decode b_M_loudest 60 = .ok (.invokevirtual 131, 3) := by decide +kernel
theorem d_M_loudest_63 : decode b_M_loudest 63 = .ok (.lcmp, 1) := by decide +kernel
theorem d_M_loudest_64 : decode b_M_loudest 64 = .ok (.ifCond .le 7, 3) := by decide +kernel
theorem d_M_loudest_67 : decode b_M_loudest 67 = .ok (.iload_n 3, 1) := by decide +kernel
theorem d_M_loudest_68 : decode b_M_loudest 68 = .ok (.goto 4, 3) := by decide +kernel
theorem d_M_loudest_71 : decode b_M_loudest 71 = .ok (.iload_n 2, 1) := by decide +kernel
theorem d_M_loudest_72 : decode b_M_loudest 72 = .ok (.istore_n 2, 1) := by decide +kernel
theorem d_M_loudest_73 : decode b_M_loudest 73 = .ok (.iinc 3 1, 3) := by decide +kernel
theorem d_M_loudest_76 : decode b_M_loudest 76 = .ok (.goto (-34), 3) := by decide +kernel
theorem d_M_loudest_79 : decode b_M_loudest 79 = .ok (.iload_n 2, 1) := by decide +kernel
theorem d_M_loudest_80 : decode b_M_loudest 80 = .ok (.ireturn, 1) := by decide +kernel
end
section
theorem d_R_init_0 : decode b_R_init 0 = .ok (.aload_n 0, 1) := by decide +kernel
theorem d_R_init_1 : decode b_R_init 1 = .ok (.invokespecial 3, 3) := by decide +kernel
theorem d_R_init_4 : decode b_R_init 4 = .ok (.aload_n 0, 1) := by decide +kernel
theorem d_R_init_5 : decode b_R_init 5 = .ok (.bipush 6, 2) := by decide +kernel
theorem d_R_init_7 : decode b_R_init 7 = .ok (.newarray .int, 2) := by decide +kernel
theorem d_R_init_9 : decode b_R_init 9 = .ok (.putfield 9, 3) := by decide +kernel
theorem d_R_init_12 : decode b_R_init 12 = .ok (.aload_n 0, 1) := by decide +kernel
theorem d_R_init_13 : decode b_R_init 13 = .ok (.new 13, 3) := by decide +kernel
theorem d_R_init_16 : decode b_R_init 16 = .ok (.dup, 1) := by decide +kernel
theorem d_R_init_17 : decode b_R_init 17 = .ok (.invokespecial 15, 3) := by decide +kernel
theorem d_R_init_20 : decode b_R_init 20 = .ok (.putfield 16, 3) := by decide +kernel
theorem d_R_init_23 : decode b_R_init 23 = .ok (.aload_n 0, 1) := by decide +kernel
theorem d_R_init_24 : decode b_R_init 24 = .ok (.sipush 500, 3) := by decide +kernel
theorem d_R_init_27 : decode b_R_init 27 = .ok (.newarray .long, 2) := by decide +kernel
theorem d_R_init_29 : decode b_R_init 29 = .ok (.putfield 20, 3) := by decide +kernel
theorem d_R_init_32 : decode b_R_init 32 = .ok (.aload_n 0, 1) := by decide +kernel
theorem d_R_init_33 : decode b_R_init 33 = .ok (.sipush 500, 3) := by decide +kernel
theorem d_R_init_36 : decode b_R_init 36 = .ok (.newarray .long, 2) := by decide +kernel
theorem d_R_init_38 : decode b_R_init 38 = .ok (.putfield 24, 3) := by decide +kernel
theorem d_R_init_41 : decode b_R_init 41 = .ok (.aload_n 0, 1) := by decide +kernel
theorem d_R_init_42 : decode b_R_init 42 = .ok (.new 27, 3) := by decide +kernel
theorem d_R_init_45 : decode b_R_init 45 = .ok (.dup, 1) := by decide +kernel
theorem d_R_init_46 : decode b_R_init 46 = .ok (.iload_n 1, 1) := by decide +kernel
theorem d_R_init_47 : decode b_R_init 47 = .ok (.invokestatic 29, 3) := by decide +kernel
theorem d_R_init_50 : decode b_R_init 50 = .ok (.invokespecial 33, 3) := by decide +kernel
theorem d_R_init_53 : decode b_R_init 53 = .ok (.putfield 36, 3) := by decide +kernel
theorem d_R_init_56 : decode b_R_init 56 = .ok (.aload_n 0, 1) := by decide +kernel
theorem d_R_init_57 : decode b_R_init 57 = .ok (.new 27, 3) := by decide +kernel
theorem d_R_init_60 : decode b_R_init 60 = .ok (.dup, 1) := by decide +kernel
theorem d_R_init_61 : decode b_R_init 61 = .ok (.iload_n 2, 1) := by decide +kernel
theorem d_R_init_62 : decode b_R_init 62 = .ok (.invokestatic 29, 3) := by decide +kernel
theorem d_R_init_65 : decode b_R_init 65 = .ok (.invokespecial 33, 3) := by decide +kernel
theorem d_R_init_68 : decode b_R_init 68 = .ok (.putfield 40, 3) := by decide +kernel
theorem d_R_init_71 : decode b_R_init 71 = .ok (.aload_n 0, 1) := by decide +kernel
theorem d_R_init_72 : decode b_R_init 72 = .ok (.new 27, 3) := by decide +kernel
theorem d_R_init_75 : decode b_R_init 75 = .ok (.dup, 1) := by decide +kernel
theorem d_R_init_76 : decode b_R_init 76 = .ok (.iload_n 3, 1) := by decide +kernel
theorem d_R_init_77 : decode b_R_init 77 = .ok (.invokestatic 29, 3) := by decide +kernel
theorem d_R_init_80 : decode b_R_init 80 = .ok (.invokespecial 33, 3) := by decide +kernel
theorem d_R_init_83 : decode b_R_init 83 = .ok (.putfield 43, 3) := by decide +kernel
theorem d_R_init_86 : decode b_R_init 86 = .ok (.iconst 0, 1) := by decide +kernel
theorem d_R_init_87 : decode b_R_init 87 = .ok (.istore 4, 2) := by decide +kernel
theorem d_R_init_89 : decode b_R_init 89 = .ok (.iload 4, 2) := by decide +kernel
theorem d_R_init_91 : decode b_R_init 91 = .ok (.bipush 6, 2) := by decide +kernel
theorem d_R_init_93 : decode b_R_init 93 = .ok (.if_icmp .ge 19, 3) := by decide +kernel
theorem d_R_init_96 : decode b_R_init 96 = .ok (.aload_n 0, 1) := by decide +kernel
theorem d_R_init_97 : decode b_R_init 97 = .ok (.getfield 9, 3) := by decide +kernel
theorem d_R_init_100 : decode b_R_init 100 = .ok (.iload 4, 2) := by decide +kernel
theorem d_R_init_102 : decode b_R_init 102 = .ok (.sipush 900, 3) := by decide +kernel
theorem d_R_init_105 : decode b_R_init 105 = .ok (.iastore, 1) := by decide +kernel
theorem d_R_init_106 : decode b_R_init 106 = .ok (.iinc 4 1, 3) := by decide +kernel
theorem d_R_init_109 : decode b_R_init 109 = .ok (.goto (-20), 3) := by decide +kernel
theorem d_R_init_112 : decode b_R_init 112 = .ok (.return_, 1) := by decide +kernel
theorem d_R_source_0 : decode b_R_source 0 = .ok (.aload_n 0, 1) := by decide +kernel
theorem d_R_source_1 : decode b_R_source 1 = .ok (.iload_n 1, 1) := by decide +kernel
theorem d_R_source_2 : decode b_R_source 2 = .ok (.iload_n 2, 1) := by decide +kernel
theorem d_R_source_3 : decode b_R_source 3 = .ok (.iload_n 3, 1) := by decide +kernel
theorem d_R_source_4 : decode b_R_source 4 = .ok (.invokevirtual 46, 3) := by decide +kernel
theorem d_R_source_7 : decode b_R_source 7 = .ok (.aload_n 0, 1) := by decide +kernel
theorem d_R_source_8 : decode b_R_source 8 = .ok (.getfield 36, 3) := by decide +kernel
theorem d_R_source_11 : decode b_R_source 11 = .ok (.iload_n 1, 1) := by decide +kernel
theorem d_R_source_12 : decode b_R_source 12 = .ok (.putfield 50, 3) := by decide +kernel
theorem d_R_source_15 : decode b_R_source 15 = .ok (.aload_n 0, 1) := by decide +kernel
theorem d_R_source_16 : decode b_R_source 16 = .ok (.getfield 40, 3) := by decide +kernel
theorem d_R_source_19 : decode b_R_source 19 = .ok (.iload_n 2, 1) := by decide +kernel
theorem d_R_source_20 : decode b_R_source 20 = .ok (.putfield 50, 3) := by decide +kernel
theorem d_R_source_23 : decode b_R_source 23 = .ok (.aload_n 0, 1) := by decide +kernel
theorem d_R_source_24 : decode b_R_source 24 = .ok (.getfield 43, 3) := by decide +kernel
theorem d_R_source_27 : decode b_R_source 27 = .ok (.iload_n 3, 1) := by decide +kernel
theorem d_R_source_28 : decode b_R_source 28 = .ok (.putfield 50, 3) := by decide +kernel
theorem d_R_source_31 : decode b_R_source 31 = .ok (.aload_n 0, 1) := by decide +kernel
theorem d_R_source_32 : decode b_R_source 32 = .ok (.invokevirtual 54, 3) := by decide +kernel
theorem d_R_source_35 : decode b_R_source 35 = .ok (.return_, 1) := by decide +kernel
theorem d_R_listener_0 : decode b_R_listener 0 = .ok (.aload_n 0, 1) := by decide +kernel
theorem d_R_listener_1 : decode b_R_listener 1 = .ok (.iload_n 1, 1) := by decide +kernel
theorem d_R_listener_2 : decode b_R_listener 2 = .ok (.iload_n 2, 1) := by decide +kernel
theorem d_R_listener_3 : decode b_R_listener 3 = .ok (.iload_n 3, 1) := by decide +kernel
theorem d_R_listener_4 : decode b_R_listener 4 = .ok (.invokevirtual 46, 3) := by decide +kernel
theorem d_R_listener_7 : decode b_R_listener 7 = .ok (.aload_n 0, 1) := by decide +kernel
theorem d_R_listener_8 : decode b_R_listener 8 = .ok (.getfield 36, 3) := by decide +kernel
theorem d_R_listener_11 : decode b_R_listener 11 = .ok (.iload_n 1, 1) := by decide +kernel
theorem d_R_listener_12 : decode b_R_listener 12 = .ok (.putfield 57, 3) := by decide +kernel
theorem d_R_listener_15 : decode b_R_listener 15 = .ok (.aload_n 0, 1) := by decide +kernel
theorem d_R_listener_16 : decode b_R_listener 16 = .ok (.getfield 40, 3) := by decide +kernel
theorem d_R_listener_19 : decode b_R_listener 19 = .ok (.iload_n 2, 1) := by decide +kernel
theorem d_R_listener_20 : decode b_R_listener 20 = .ok (.putfield 57, 3) := by decide +kernel
theorem d_R_listener_23 : decode b_R_listener 23 = .ok (.aload_n 0, 1) := by decide +kernel
theorem d_R_listener_24 : decode b_R_listener 24 = .ok (.getfield 43, 3) := by decide +kernel
theorem d_R_listener_27 : decode b_R_listener 27 = .ok (.iload_n 3, 1) := by decide +kernel
theorem d_R_listener_28 : decode b_R_listener 28 = .ok (.putfield 57, 3) := by decide +kernel
theorem d_R_listener_31 : decode b_R_listener 31 = .ok (.aload_n 0, 1) := by decide +kernel
theorem d_R_listener_32 : decode b_R_listener 32 = .ok (.invokevirtual 54, 3) := by decide +kernel
theorem d_R_listener_35 : decode b_R_listener 35 = .ok (.return_, 1) := by decide +kernel
theorem d_R_keeps_0 : decode b_R_keeps 0 = .ok (.iload_n 1, 1) := by decide +kernel
theorem d_R_keeps_1 : decode b_R_keeps 1 = .ok (.iconst 0, 1) := by decide +kernel
theorem d_R_keeps_2 : decode b_R_keeps 2 = .ok (.iconst 5, 1) := by decide +kernel
theorem d_R_keeps_3 : decode b_R_keeps 3 = .ok (.invokestatic 60, 3) := by decide +kernel
theorem d_R_keeps_6 : decode b_R_keeps 6 = .ok (.iload_n 2, 1) := by decide +kernel
theorem d_R_keeps_7 : decode b_R_keeps 7 = .ok (.iconst 0, 1) := by decide +kernel
theorem d_R_keeps_8 : decode b_R_keeps 8 = .ok (.sipush 1000, 3) := by decide +kernel
theorem d_R_keeps_11 : decode b_R_keeps 11 = .ok (.invokestatic 60, 3) := by decide +kernel
theorem d_R_keeps_14 : decode b_R_keeps 14 = .ok (.aload_n 0, 1) := by decide +kernel
theorem d_R_keeps_15 : decode b_R_keeps 15 = .ok (.getfield 9, 3) := by decide +kernel
theorem d_R_keeps_18 : decode b_R_keeps 18 = .ok (.iload_n 1, 1) := by decide +kernel
theorem d_R_keeps_19 : decode b_R_keeps 19 = .ok (.iaload, 1) := by decide +kernel
theorem d_R_keeps_20 : decode b_R_keeps 20 = .ok (.istore_n 3, 1) := by decide +kernel
theorem d_R_keeps_21 : decode b_R_keeps 21 = .ok (.aload_n 0, 1) := by decide +kernel
theorem d_R_keeps_22 : decode b_R_keeps 22 = .ok (.getfield 9, 3) := by decide +kernel
theorem d_R_keeps_25 : decode b_R_keeps 25 = .ok (.iload_n 1, 1) := by decide +kernel
theorem d_R_keeps_26 : decode b_R_keeps 26 = .ok (.iload_n 2, 1) := by decide +kernel
theorem d_R_keeps_27 : decode b_R_keeps 27 = .ok (.iastore, 1) := by decide +kernel
theorem d_R_keeps_28 : decode b_R_keeps 28 = .ok (.aload_n 0, 1) := by decide +kernel
theorem d_R_keeps_29 : decode b_R_keeps 29 = .ok (.iconst 0, 1) := by decide +kernel
theorem d_R_keeps_30 : decode b_R_keeps 30 = .ok (.putfield 63, 3) := by decide +kernel
theorem d_R_keeps_33 : decode b_R_keeps 33 = .ok (.iload_n 3, 1) := by decide +kernel
theorem d_R_keeps_34 : decode b_R_keeps 34 = .ok (.ireturn, 1) := by decide +kernel
theorem d_R_image_0 : decode b_R_image 0 = .ok (.iload_n 1, 1) := by decide +kernel
theorem d_R_image_1 : decode b_R_image 1 = .ok (.iload_n 2, 1) := by decide +kernel
theorem d_R_image_2 : decode b_R_image 2 = .ok (.iload_n 3, 1) := by decide +kernel
theorem d_R_image_3 : decode b_R_image 3 = .ok (.invokestatic 67, 3) := by decide +kernel
theorem d_R_image_6 : decode b_R_image 6 = .ok (.iload 4, 2) := by decide +kernel
theorem d_R_image_8 : decode b_R_image 8 = .ok (.iconst 0, 1) := by decide +kernel
theorem d_R_image_9 : decode b_R_image 9 = .ok (.iconst 3, 1) := by decide +kernel
theorem d_R_image_10 : decode b_R_image 10 = .ok (.invokestatic 60, 3) := by decide +kernel
theorem d_R_image_13 : decode b_R_image 13 = .ok (.iload 4, 2) := by decide +kernel
theorem d_R_image_15 : decode b_R_image 15 = .ok (.tableswitch 59 0 2 #[25, 33, 41], 25) := by decide +kernel
theorem d_R_image_40 : decode b_R_image 40 = .ok (.aload_n 0, 1) := by decide +kernel
theorem d_R_image_41 : decode b_R_image 41 = .ok (.iload_n 1, 1) := by decide +kernel
theorem d_R_image_42 : decode b_R_image 42 = .ok (.iload_n 2, 1) := by decide +kernel
theorem d_R_image_43 : decode b_R_image 43 = .ok (.iload_n 3, 1) := by decide +kernel
theorem d_R_image_44 : decode b_R_image 44 = .ok (.invokevirtual 70, 3) := by decide +kernel
theorem d_R_image_47 : decode b_R_image 47 = .ok (.lreturn, 1) := by decide +kernel
theorem d_R_image_48 : decode b_R_image 48 = .ok (.aload_n 0, 1) := by decide +kernel
theorem d_R_image_49 : decode b_R_image 49 = .ok (.iload_n 1, 1) := by decide +kernel
theorem d_R_image_50 : decode b_R_image 50 = .ok (.iload_n 2, 1) := by decide +kernel
theorem d_R_image_51 : decode b_R_image 51 = .ok (.iload_n 3, 1) := by decide +kernel
theorem d_R_image_52 : decode b_R_image 52 = .ok (.invokevirtual 74, 3) := by decide +kernel
theorem d_R_image_55 : decode b_R_image 55 = .ok (.lreturn, 1) := by decide +kernel
theorem d_R_image_56 : decode b_R_image 56 = .ok (.aload_n 0, 1) := by decide +kernel
theorem d_R_image_57 : decode b_R_image 57 = .ok (.iload_n 1, 1) := by decide +kernel
theorem d_R_image_58 : decode b_R_image 58 = .ok (.iload_n 2, 1) := by decide +kernel
theorem d_R_image_59 : decode b_R_image 59 = .ok (.iload_n 3, 1) := by decide +kernel
theorem d_R_image_60 : decode b_R_image 60 = .ok (.invokevirtual 74, 3) := by decide +kernel
theorem d_R_image_63 : decode b_R_image 63 = .ok (.aload_n 0, 1) := by decide +kernel
theorem d_R_image_64 : decode b_R_image 64 = .ok (.iload_n 1, 1) := by decide +kernel
theorem d_R_image_65 : decode b_R_image 65 = .ok (.iload_n 2, 1) := by decide +kernel
theorem d_R_image_66 : decode b_R_image 66 = .ok (.iload_n 3, 1) := by decide +kernel
theorem d_R_image_67 : decode b_R_image 67 = .ok (.invokevirtual 70, 3) := by decide +kernel
theorem d_R_image_70 : decode b_R_image 70 = .ok (.invokestatic 77, 3) := by decide +kernel
theorem d_R_image_73 : decode b_R_image 73 = .ok (.lreturn, 1) := by decide +kernel
theorem d_R_image_74 : decode b_R_image 74 = .ok (.iload_n 1, 1) := by decide +kernel
theorem d_R_image_75 : decode b_R_image 75 = .ok (.iload_n 2, 1) := by decide +kernel
theorem d_R_image_76 : decode b_R_image 76 = .ok (.iload_n 3, 1) := by decide +kernel
theorem d_R_image_77 : decode b_R_image 77 = .ok (.invokestatic 81, 3) := by decide +kernel
theorem d_R_image_80 : decode b_R_image 80 = .ok (.i2l, 1) := by decide +kernel
theorem d_R_image_81 : decode b_R_image 81 = .ok (.lreturn, 1) := by decide +kernel
theorem d_R_echo_0 : decode b_R_echo 0 = .ok (.iload_n 1, 1) := by decide +kernel
theorem d_R_echo_1 : decode b_R_echo 1 = .ok (.iconst 0, 1) := by decide +kernel
theorem d_R_echo_2 : decode b_R_echo 2 = .ok (.sipush 499, 3) := by decide +kernel
theorem d_R_echo_5 : decode b_R_echo 5 = .ok (.invokestatic 60, 3) := by decide +kernel
theorem d_R_echo_8 : decode b_R_echo 8 = .ok (.iload_n 2, 1) := by decide +kernel
theorem d_R_echo_9 : decode b_R_echo 9 = .ok (.iconst 0, 1) := by decide +kernel
theorem d_R_echo_10 : decode b_R_echo 10 = .ok (.bipush 6, 2) := by decide +kernel
theorem d_R_echo_12 : decode b_R_echo 12 = .ok (.invokestatic 60, 3) := by decide +kernel
theorem d_R_echo_15 : decode b_R_echo 15 = .ok (.aload_n 0, 1) := by decide +kernel
theorem d_R_echo_16 : decode b_R_echo 16 = .ok (.invokevirtual 85, 3) := by decide +kernel
theorem d_R_echo_19 : decode b_R_echo 19 = .ok (.aload_n 0, 1) := by decide +kernel
theorem d_R_echo_20 : decode b_R_echo 20 = .ok (.getfield 20, 3) := by decide +kernel
theorem d_R_echo_23 : decode b_R_echo 23 = .ok (.iload_n 1, 1) := by decide +kernel
theorem d_R_echo_24 : decode b_R_echo 24 = .ok (.laload, 1) := by decide +kernel
theorem d_R_echo_25 : decode b_R_echo 25 = .ok (.lstore_n 3, 1) := by decide +kernel
theorem d_R_echo_26 : decode b_R_echo 26 = .ok (.lload_n 3, 1) := by decide +kernel
theorem d_R_echo_27 : decode b_R_echo 27 = .ok (.invokestatic 88, 3) := by decide +kernel
theorem d_R_echo_30 : decode b_R_echo 30 = .ok (.istore 5, 2) := by decide +kernel
theorem d_R_echo_32 : decode b_R_echo 32 = .ok (.lload_n 3, 1) := by decide +kernel
theorem d_R_echo_33 : decode b_R_echo 33 = .ok (.invokestatic 92, 3) := by decide +kernel
theorem d_R_echo_36 : decode b_R_echo 36 = .ok (.istore 6, 2) := by decide +kernel
theorem d_R_echo_38 : decode b_R_echo 38 = .ok (.lload_n 3, 1) := by decide +kernel
theorem d_R_echo_39 : decode b_R_echo 39 = .ok (.invokestatic 95, 3) := by decide +kernel
theorem d_R_echo_42 : decode b_R_echo 42 = .ok (.istore 7, 2) := by decide +kernel
theorem d_R_echo_44 : decode b_R_echo 44 = .ok (.iload_n 2, 1) := by decide +kernel
theorem d_R_echo_45 : decode b_R_echo 45 = .ok (.tableswitch 39 4 6 #[27, 31, 35], 27) := by decide +kernel
theorem d_R_echo_72 : decode b_R_echo 72 = .ok (.iload 5, 2) := by decide +kernel
theorem d_R_echo_74 : decode b_R_echo 74 = .ok (.i2l, 1) := by decide +kernel
theorem d_R_echo_75 : decode b_R_echo 75 = .ok (.lreturn, 1) := by decide +kernel
theorem d_R_echo_76 : decode b_R_echo 76 = .ok (.iload 6, 2) := by decide +kernel
theorem d_R_echo_78 : decode b_R_echo 78 = .ok (.i2l, 1) := by decide +kernel
theorem d_R_echo_79 : decode b_R_echo 79 = .ok (.lreturn, 1) := by decide +kernel
theorem d_R_echo_80 : decode b_R_echo 80 = .ok (.iload 7, 2) := by decide +kernel
theorem d_R_echo_82 : decode b_R_echo 82 = .ok (.i2l, 1) := by decide +kernel
theorem d_R_echo_83 : decode b_R_echo 83 = .ok (.lreturn, 1) := by decide +kernel
theorem d_R_echo_84 : decode b_R_echo 84 = .ok (.aload_n 0, 1) := by decide +kernel
theorem d_R_echo_85 : decode b_R_echo 85 = .ok (.iload 5, 2) := by decide +kernel
theorem d_R_echo_87 : decode b_R_echo 87 = .ok (.iload 6, 2) := by decide +kernel
theorem d_R_echo_89 : decode b_R_echo 89 = .ok (.iload 7, 2) := by decide +kernel
theorem d_R_echo_91 : decode b_R_echo 91 = .ok (.iload_n 2, 1) := by decide +kernel
theorem d_R_echo_92 : decode b_R_echo 92 = .ok (.invokevirtual 98, 3) := by decide +kernel
theorem d_R_echo_95 : decode b_R_echo 95 = .ok (.lreturn, 1) := by decide +kernel
theorem d_R_place_0 : decode b_R_place 0 = .ok (.iload_n 1, 1) := by decide +kernel
theorem d_R_place_1 : decode b_R_place 1 = .ok (.iload_n 2, 1) := by decide +kernel
theorem d_R_place_2 : decode b_R_place 2 = .ok (.iload_n 3, 1) := by decide +kernel
theorem d_R_place_3 : decode b_R_place 3 = .ok (.invokestatic 67, 3) := by decide +kernel
theorem d_R_place_6 : decode b_R_place 6 = .ok (.aload_n 0, 1) := by decide +kernel
theorem d_R_place_7 : decode b_R_place 7 = .ok (.invokevirtual 85, 3) := by decide +kernel
theorem d_R_place_10 : decode b_R_place 10 = .ok (.aload_n 0, 1) := by decide +kernel
theorem d_R_place_11 : decode b_R_place 11 = .ok (.iload_n 1, 1) := by decide +kernel
theorem d_R_place_12 : decode b_R_place 12 = .ok (.iload_n 2, 1) := by decide +kernel
theorem d_R_place_13 : decode b_R_place 13 = .ok (.iload_n 3, 1) := by decide +kernel
theorem d_R_place_14 : decode b_R_place 14 = .ok (.invokevirtual 70, 3) := by decide +kernel
theorem d_R_place_17 : decode b_R_place 17 = .ok (.iload_n 1, 1) := by decide +kernel
theorem d_R_place_18 : decode b_R_place 18 = .ok (.iload_n 2, 1) := by decide +kernel
theorem d_R_place_19 : decode b_R_place 19 = .ok (.iload_n 3, 1) := by decide +kernel
theorem d_R_place_20 : decode b_R_place 20 = .ok (.invokestatic 102, 3) := by decide +kernel
theorem d_R_place_23 : decode b_R_place 23 = .ok (.lstore 4, 2) := by decide +kernel
theorem d_R_place_25 : decode b_R_place 25 = .ok (.iconst 0, 1) := by decide +kernel
theorem d_R_place_26 : decode b_R_place 26 = .ok (.istore 6, 2) := by decide +kernel
theorem d_R_place_28 : decode b_R_place 28 = .ok (.iload 6, 2) := by decide +kernel
theorem d_R_place_30 : decode b_R_place 30 = .ok (.sipush 500, 3) := by decide +kernel
theorem d_R_place_33 : decode b_R_place 33 = .ok (.if_icmp .ge 25, 3) := by decide +kernel
theorem d_R_place_36 : decode b_R_place 36 = .ok (.aload_n 0, 1) := by decide +kernel
theorem d_R_place_37 : decode b_R_place 37 = .ok (.getfield 20, 3) := by decide +kernel
theorem d_R_place_40 : decode b_R_place 40 = .ok (.iload 6, 2) := by decide +kernel
theorem d_R_place_42 : decode b_R_place 42 = .ok (.laload, 1) := by decide +kernel
theorem d_R_place_43 : decode b_R_place 43 = .ok (.lload 4, 2) := by decide +kernel
theorem d_R_place_45 : decode b_R_place 45 = .ok (.lcmp, 1) := by decide +kernel
theorem d_R_place_46 : decode b_R_place 46 = .ok (.ifCond .ne 6, 3) := by decide +kernel
theorem d_R_place_49 : decode b_R_place 49 = .ok (.iload 6, 2) := by decide +kernel
theorem d_R_place_51 : decode b_R_place 51 = .ok (.ireturn, 1) := by decide +kernel
theorem d_R_place_52 : decode b_R_place 52 = .ok (.iinc 6 1, 3) := by decide +kernel
theorem d_R_place_55 : decode b_R_place 55 = .ok (.goto (-27), 3) := by decide +kernel
theorem d_R_place_58 : decode b_R_place 58 = .ok (.iconst (-1), 1) := by decide +kernel
theorem d_R_place_59 : decode b_R_place 59 = .ok (.ireturn, 1) := by decide +kernel
theorem d_R_until_0 : decode b_R_until 0 = .ok (.lload_n 1, 1) := by decide +kernel
theorem d_R_until_1 : decode b_R_until 1 = .ok (.invokestatic 106, 3) := by decide +kernel
theorem d_R_until_4 : decode b_R_until 4 = .ok (.aload_n 0, 1) := by decide +kernel
theorem d_R_until_5 : decode b_R_until 5 = .ok (.invokevirtual 85, 3) := by decide +kernel
theorem d_R_until_8 : decode b_R_until 8 = .ok (.aload_n 0, 1) := by decide +kernel
theorem d_R_until_9 : decode b_R_until 9 = .ok (.lload_n 1, 1) := by decide +kernel
theorem d_R_until_10 : decode b_R_until 10 = .ok (.invokevirtual 110, 3) := by decide +kernel
theorem d_R_until_13 : decode b_R_until 13 = .ok (.ireturn, 1) := by decide +kernel
theorem d_R_loud_0 : decode b_R_loud 0 = .ok (.iload_n 1, 1) := by decide +kernel
theorem d_R_loud_1 : decode b_R_loud 1 = .ok (.iconst 0, 1) := by decide +kernel
theorem d_R_loud_2 : decode b_R_loud 2 = .ok (.sipush 499, 3) := by decide +kernel
theorem d_R_loud_5 : decode b_R_loud 5 = .ok (.invokestatic 60, 3) := by decide +kernel
theorem d_R_loud_8 : decode b_R_loud 8 = .ok (.iload_n 2, 1) := by decide +kernel
theorem d_R_loud_9 : decode b_R_loud 9 = .ok (.iload_n 1, 1) := by decide +kernel
theorem d_R_loud_10 : decode b_R_loud 10 = .ok (.sipush 499, 3) := by decide +kernel
theorem d_R_loud_13 : decode b_R_loud 13 = .ok (.invokestatic 60, 3) := by decide +kernel
theorem d_R_loud_16 : decode b_R_loud 16 = .ok (.aload_n 0, 1) := by decide +kernel
theorem d_R_loud_17 : decode b_R_loud 17 = .ok (.invokevirtual 113, 3) := by decide +kernel
theorem d_R_loud_20 : decode b_R_loud 20 = .ok (.aload_n 0, 1) := by decide +kernel
theorem d_R_loud_21 : decode b_R_loud 21 = .ok (.iload_n 1, 1) := by decide +kernel
theorem d_R_loud_22 : decode b_R_loud 22 = .ok (.iload_n 2, 1) := by decide +kernel
theorem d_R_loud_23 : decode b_R_loud 23 = .ok (.iconst 1, 1) := by decide +kernel
theorem d_R_loud_24 : decode b_R_loud 24 = .ok (.iadd, 1) := by decide +kernel
theorem d_R_loud_25 : decode b_R_loud 25 = .ok (.invokevirtual 116, 3) := by decide +kernel
theorem d_R_loud_28 : decode b_R_loud 28 = .ok (.lreturn, 1) := by decide +kernel
theorem d_R_early_0 : decode b_R_early 0 = .ok (.lload_n 1, 1) := by decide +kernel
theorem d_R_early_1 : decode b_R_early 1 = .ok (.invokestatic 106, 3) := by decide +kernel
theorem d_R_early_4 : decode b_R_early 4 = .ok (.iload_n 3, 1) := by decide +kernel
theorem d_R_early_5 : decode b_R_early 5 = .ok (.iconst 0, 1) := by decide +kernel
theorem d_R_early_6 : decode b_R_early 6 = .ok (.iconst 1, 1) := by decide +kernel
theorem d_R_early_7 : decode b_R_early 7 = .ok (.invokestatic 60, 3) := by decide +kernel
theorem d_R_early_10 : decode b_R_early 10 = .ok (.aload_n 0, 1) := by decide +kernel
theorem d_R_early_11 : decode b_R_early 11 = .ok (.invokevirtual 113, 3) := by decide +kernel
theorem d_R_early_14 : decode b_R_early 14 = .ok (.aload_n 0, 1) := by decide +kernel
theorem d_R_early_15 : decode b_R_early 15 = .ok (.iconst 0, 1) := by decide +kernel
theorem d_R_early_16 : decode b_R_early 16 = .ok (.sipush 500, 3) := by decide +kernel
theorem d_R_early_19 : decode b_R_early 19 = .ok (.invokevirtual 116, 3) := by decide +kernel
theorem d_R_early_22 : decode b_R_early 22 = .ok (.lstore 4, 2) := by decide +kernel
theorem d_R_early_24 : decode b_R_early 24 = .ok (.aload_n 0, 1) := by decide +kernel
theorem d_R_early_25 : decode b_R_early 25 = .ok (.iconst 0, 1) := by decide +kernel
theorem d_R_early_26 : decode b_R_early 26 = .ok (.aload_n 0, 1) := by decide +kernel
theorem d_R_early_27 : decode b_R_early 27 = .ok (.lload_n 1, 1) := by decide +kernel
theorem d_R_early_28 : decode b_R_early 28 = .ok (.invokevirtual 110, 3) := by decide +kernel
theorem d_R_early_31 : decode b_R_early 31 = .ok (.invokevirtual 116, 3) := by decide +kernel
theorem d_R_early_34 : decode b_R_early 34 = .ok (.lstore 6, 2) := by decide +kernel
theorem d_R_early_36 : decode b_R_early 36 = .ok (.lload 4, 2) := by decide +kernel
theorem d_R_early_38 : decode b_R_early 38 = .ok (.lload 6, 2) := by decide +kernel
theorem d_R_early_40 : decode b_R_early 40 = .ok (.invokestatic 120, 3) := by decide +kernel
theorem d_R_early_43 : decode b_R_early 43 = .ok (.lstore 8, 2) := by decide +kernel
theorem d_R_early_45 : decode b_R_early 45 = .ok (.lload 8, 2) := by decide +kernel
theorem d_R_early_47 : decode b_R_early 47 = .ok (.lconst 0, 1) := by decide +kernel
theorem d_R_early_48 : decode b_R_early 48 = .ok (.lcmp, 1) := by decide +kernel
theorem d_R_early_49 : decode b_R_early 49 = .ok (.ifCond .ne 6, 3) := by decide +kernel
theorem d_R_early_52 : decode b_R_early 52 = .ok (.iload_n 3, 1) := by decide +kernel
theorem d_R_early_53 : decode b_R_early 53 = .ok (.i2l, 1) := by decide +kernel
theorem d_R_early_54 : decode b_R_early 54 = .ok (.lreturn, 1) := by decide +kernel
theorem d_R_early_55 : decode b_R_early 55 = .ok (.iload_n 3, 1) := by decide +kernel
theorem d_R_early_56 : decode b_R_early 56 = .ok (.ifCond .ne 8, 3) := by decide +kernel
theorem d_R_early_59 : decode b_R_early 59 = .ok (.lload 6, 2) := by decide +kernel
theorem d_R_early_61 : decode b_R_early 61 = .ok (.goto 5, 3) := by decide +kernel
theorem d_R_early_64 : decode b_R_early 64 = .ok (.lload 4, 2) := by decide +kernel
theorem d_R_early_66 : decode b_R_early 66 = .ok (.lload 8, 2) := by decide +kernel
theorem d_R_early_68 : decode b_R_early 68 = .ok (.ldiv, 1) := by decide +kernel
theorem d_R_early_69 : decode b_R_early 69 = .ok (.lreturn, 1) := by decide +kernel
theorem d_R_enough_0 : decode b_R_enough 0 = .ok (.iload_n 1, 1) := by decide +kernel
theorem d_R_enough_1 : decode b_R_enough 1 = .ok (.iconst 0, 1) := by decide +kernel
theorem d_R_enough_2 : decode b_R_enough 2 = .ok (.sipush 1000, 3) := by decide +kernel
theorem d_R_enough_5 : decode b_R_enough 5 = .ok (.invokestatic 60, 3) := by decide +kernel
theorem d_R_enough_8 : decode b_R_enough 8 = .ok (.aload_n 0, 1) := by decide +kernel
theorem d_R_enough_9 : decode b_R_enough 9 = .ok (.invokevirtual 113, 3) := by decide +kernel
theorem d_R_enough_12 : decode b_R_enough 12 = .ok (.aload_n 0, 1) := by decide +kernel
theorem d_R_enough_13 : decode b_R_enough 13 = .ok (.iconst 0, 1) := by decide +kernel
theorem d_R_enough_14 : decode b_R_enough 14 = .ok (.sipush 500, 3) := by decide +kernel
theorem d_R_enough_17 : decode b_R_enough 17 = .ok (.invokevirtual 116, 3) := by decide +kernel
theorem d_R_enough_20 : decode b_R_enough 20 = .ok (.iload_n 1, 1) := by decide +kernel
theorem d_R_enough_21 : decode b_R_enough 21 = .ok (.i2l, 1) := by decide +kernel
theorem d_R_enough_22 : decode b_R_enough 22 = .ok (.lmul, 1) := by decide +kernel
theorem d_R_enough_23 : decode b_R_enough 23 = .ok (.lstore_n 2, 1) := by decide +kernel
theorem d_R_enough_24 : decode b_R_enough 24 = .ok (.lconst 0, 1) := by decide +kernel
theorem d_R_enough_25 : decode b_R_enough 25 = .ok (.lstore 4, 2) := by decide +kernel
theorem d_R_enough_27 : decode b_R_enough 27 = .ok (.iconst 0, 1) := by decide +kernel
theorem d_R_enough_28 : decode b_R_enough 28 = .ok (.istore 6, 2) := by decide +kernel
theorem d_R_enough_30 : decode b_R_enough 30 = .ok (.iload 6, 2) := by decide +kernel
theorem d_R_enough_32 : decode b_R_enough 32 = .ok (.sipush 500, 3) := by decide +kernel
theorem d_R_enough_35 : decode b_R_enough 35 = .ok (.if_icmp .ge 35, 3) := by decide +kernel
theorem d_R_enough_38 : decode b_R_enough 38 = .ok (.lload 4, 2) := by decide +kernel
theorem d_R_enough_40 : decode b_R_enough 40 = .ok (.aload_n 0, 1) := by decide +kernel
theorem d_R_enough_41 : decode b_R_enough 41 = .ok (.getfield 24, 3) := by decide +kernel
end
section
theorem d_R_enough_44 : decode b_R_enough 44 = .ok (.iload 6, 2) := by decide +kernel
theorem d_R_enough_46 : decode b_R_enough 46 = .ok (.laload, 1) := by decide +kernel
theorem d_R_enough_47 : decode b_R_enough 47 = .ok (.ladd, 1) := by decide +kernel
theorem d_R_enough_48 : decode b_R_enough 48 = .ok (.lstore 4, 2) := by decide +kernel
theorem d_R_enough_50 : decode b_R_enough 50 = .ok (.lload 4, 2) := by decide +kernel
theorem d_R_enough_52 : decode b_R_enough 52 = .ok (.ldc2_w 123, 3) := by decide +kernel
theorem d_R_enough_55 : decode b_R_enough 55 = .ok (.lmul, 1) := by decide +kernel
theorem d_R_enough_56 : decode b_R_enough 56 = .ok (.lload_n 2, 1) := by decide +kernel
theorem d_R_enough_57 : decode b_R_enough 57 = .ok (.lcmp, 1) := by decide +kernel
theorem d_R_enough_58 : decode b_R_enough 58 = .ok (.ifCond .lt 6, 3) := by decide +kernel
theorem d_R_enough_61 : decode b_R_enough 61 = .ok (.iload 6, 2) := by decide +kernel
theorem d_R_enough_63 : decode b_R_enough 63 = .ok (.ireturn, 1) := by decide +kernel
theorem d_R_enough_64 : decode b_R_enough 64 = .ok (.iinc 6 1, 3) := by decide +kernel
theorem d_R_enough_67 : decode b_R_enough 67 = .ok (.goto (-37), 3) := by decide +kernel
theorem d_R_enough_70 : decode b_R_enough 70 = .ok (.sipush 499, 3) := by decide +kernel
theorem d_R_enough_73 : decode b_R_enough 73 = .ok (.ireturn, 1) := by decide +kernel
theorem d_R_loudest_0 : decode b_R_loudest 0 = .ok (.iload_n 1, 1) := by decide +kernel
theorem d_R_loudest_1 : decode b_R_loudest 1 = .ok (.iconst (-1), 1) := by decide +kernel
theorem d_R_loudest_2 : decode b_R_loudest 2 = .ok (.sipush 499, 3) := by decide +kernel
theorem d_R_loudest_5 : decode b_R_loudest 5 = .ok (.invokestatic 60, 3) := by decide +kernel
theorem d_R_loudest_8 : decode b_R_loudest 8 = .ok (.aload_n 0, 1) := by decide +kernel
theorem d_R_loudest_9 : decode b_R_loudest 9 = .ok (.invokevirtual 113, 3) := by decide +kernel
theorem d_R_loudest_12 : decode b_R_loudest 12 = .ok (.iconst (-1), 1) := by decide +kernel
theorem d_R_loudest_13 : decode b_R_loudest 13 = .ok (.istore_n 2, 1) := by decide +kernel
theorem d_R_loudest_14 : decode b_R_loudest 14 = .ok (.ldc2_w 125, 3) := by decide +kernel
theorem d_R_loudest_17 : decode b_R_loudest 17 = .ok (.lstore_n 3, 1) := by decide +kernel
theorem d_R_loudest_18 : decode b_R_loudest 18 = .ok (.iload_n 1, 1) := by decide +kernel
theorem d_R_loudest_19 : decode b_R_loudest 19 = .ok (.iconst 1, 1) := by decide +kernel
theorem d_R_loudest_20 : decode b_R_loudest 20 = .ok (.iadd, 1) := by decide +kernel
theorem d_R_loudest_21 : decode b_R_loudest 21 = .ok (.istore 5, 2) := by decide +kernel
theorem d_R_loudest_23 : decode b_R_loudest 23 = .ok (.iload 5, 2) := by decide +kernel
theorem d_R_loudest_25 : decode b_R_loudest 25 = .ok (.sipush 500, 3) := by decide +kernel
theorem d_R_loudest_28 : decode b_R_loudest 28 = .ok (.if_icmp .ge 32, 3) := by decide +kernel
theorem d_R_loudest_31 : decode b_R_loudest 31 = .ok (.aload_n 0, 1) := by decide +kernel
theorem d_R_loudest_32 : decode b_R_loudest 32 = .ok (.getfield 24, 3) := by decide +kernel
theorem d_R_loudest_35 : decode b_R_loudest 35 = .ok (.iload 5, 2) := by decide +kernel
theorem d_R_loudest_37 : decode b_R_loudest 37 = .ok (.laload, 1) := by decide +kernel
theorem d_R_loudest_38 : decode b_R_loudest 38 = .ok (.lload_n 3, 1) := by decide +kernel
theorem d_R_loudest_39 : decode b_R_loudest 39 = .ok (.lcmp, 1) := by decide +kernel
theorem d_R_loudest_40 : decode b_R_loudest 40 = .ok (.ifCond .le 14, 3) := by decide +kernel
theorem d_R_loudest_43 : decode b_R_loudest 43 = .ok (.aload_n 0, 1) := by decide +kernel
theorem d_R_loudest_44 : decode b_R_loudest 44 = .ok (.getfield 24, 3) := by decide +kernel
theorem d_R_loudest_47 : decode b_R_loudest 47 = .ok (.iload 5, 2) := by decide +kernel
theorem d_R_loudest_49 : decode b_R_loudest 49 = .ok (.laload, 1) := by decide +kernel
theorem d_R_loudest_50 : decode b_R_loudest 50 = .ok (.lstore_n 3, 1) := by decide +kernel
theorem d_R_loudest_51 : decode b_R_loudest 51 = .ok (.iload 5, 2) := by decide +kernel
theorem d_R_loudest_53 : decode b_R_loudest 53 = .ok (.istore_n 2, 1) := by decide +kernel
theorem d_R_loudest_54 : decode b_R_loudest 54 = .ok (.iinc 5 1, 3) := by decide +kernel
theorem d_R_loudest_57 : decode b_R_loudest 57 = .ok (.goto (-34), 3) := by decide +kernel
theorem d_R_loudest_60 : decode b_R_loudest 60 = .ok (.iload_n 2, 1) := by decide +kernel
theorem d_R_loudest_61 : decode b_R_loudest 61 = .ok (.ireturn, 1) := by decide +kernel
theorem d_R_sizeWithin_0 : decode b_R_sizeWithin 0 = .ok (.iconst 1, 1) := by decide +kernel
theorem d_R_sizeWithin_1 : decode b_R_sizeWithin 1 = .ok (.sipush 1000, 3) := by decide +kernel
theorem d_R_sizeWithin_4 : decode b_R_sizeWithin 4 = .ok (.iload_n 0, 1) := by decide +kernel
theorem d_R_sizeWithin_5 : decode b_R_sizeWithin 5 = .ok (.invokestatic 127, 3) := by decide +kernel
theorem d_R_sizeWithin_8 : decode b_R_sizeWithin 8 = .ok (.invokestatic 133, 3) := by decide +kernel
theorem d_R_sizeWithin_11 : decode b_R_sizeWithin 11 = .ok (.ireturn, 1) := by decide +kernel
theorem d_R_requireWithin_0 : decode b_R_requireWithin 0 = .ok (.iload_n 0, 1) := by decide +kernel
theorem d_R_requireWithin_1 : decode b_R_requireWithin 1 = .ok (.iload_n 1, 1) := by decide +kernel
theorem d_R_requireWithin_2 : decode b_R_requireWithin 2 = .ok (.if_icmp .lt 8, 3) := by decide +kernel
theorem d_R_requireWithin_5 : decode b_R_requireWithin 5 = .ok (.iload_n 0, 1) := by decide +kernel
theorem d_R_requireWithin_6 : decode b_R_requireWithin 6 = .ok (.iload_n 2, 1) := by decide +kernel
theorem d_R_requireWithin_7 : decode b_R_requireWithin 7 = .ok (.if_icmp .le 13, 3) := by decide +kernel
theorem d_R_requireWithin_10 : decode b_R_requireWithin 10 = .ok (.new 136, 3) := by decide +kernel
theorem d_R_requireWithin_13 : decode b_R_requireWithin 13 = .ok (.dup, 1) := by decide +kernel
theorem d_R_requireWithin_14 : decode b_R_requireWithin 14 = .ok (.ldc 138, 2) := by decide +kernel
theorem d_R_requireWithin_16 : decode b_R_requireWithin 16 = .ok (.invokespecial 140, 3) := by decide +kernel
theorem d_R_requireWithin_19 : decode b_R_requireWithin 19 = .ok (.athrow, 1) := by decide +kernel
theorem d_R_requireWithin_20 : decode b_R_requireWithin 20 = .ok (.return_, 1) := by decide +kernel
theorem d_R_requireDistance_0 : decode b_R_requireDistance 0 = .ok (.lload_n 0, 1) := by decide +kernel
theorem d_R_requireDistance_1 : decode b_R_requireDistance 1 = .ok (.lconst 0, 1) := by decide +kernel
theorem d_R_requireDistance_2 : decode b_R_requireDistance 2 = .ok (.lcmp, 1) := by decide +kernel
theorem d_R_requireDistance_3 : decode b_R_requireDistance 3 = .ok (.ifCond .ge 13, 3) := by decide +kernel
theorem d_R_requireDistance_6 : decode b_R_requireDistance 6 = .ok (.new 136, 3) := by decide +kernel
theorem d_R_requireDistance_9 : decode b_R_requireDistance 9 = .ok (.dup, 1) := by decide +kernel
theorem d_R_requireDistance_10 : decode b_R_requireDistance 10 = .ok (.ldc 143, 2) := by decide +kernel
theorem d_R_requireDistance_12 : decode b_R_requireDistance 12 = .ok (.invokespecial 140, 3) := by decide +kernel
theorem d_R_requireDistance_15 : decode b_R_requireDistance 15 = .ok (.athrow, 1) := by decide +kernel
theorem d_R_requireDistance_16 : decode b_R_requireDistance 16 = .ok (.return_, 1) := by decide +kernel
theorem d_R_requireNumbers_0 : decode b_R_requireNumbers 0 = .ok (.iload_n 0, 1) := by decide +kernel
theorem d_R_requireNumbers_1 : decode b_R_requireNumbers 1 = .ok (.bipush (-40), 2) := by decide +kernel
theorem d_R_requireNumbers_3 : decode b_R_requireNumbers 3 = .ok (.bipush 40, 2) := by decide +kernel
theorem d_R_requireNumbers_5 : decode b_R_requireNumbers 5 = .ok (.invokestatic 60, 3) := by decide +kernel
theorem d_R_requireNumbers_8 : decode b_R_requireNumbers 8 = .ok (.iload_n 1, 1) := by decide +kernel
theorem d_R_requireNumbers_9 : decode b_R_requireNumbers 9 = .ok (.bipush (-40), 2) := by decide +kernel
theorem d_R_requireNumbers_11 : decode b_R_requireNumbers 11 = .ok (.bipush 40, 2) := by decide +kernel
theorem d_R_requireNumbers_13 : decode b_R_requireNumbers 13 = .ok (.invokestatic 60, 3) := by decide +kernel
theorem d_R_requireNumbers_16 : decode b_R_requireNumbers 16 = .ok (.iload_n 2, 1) := by decide +kernel
theorem d_R_requireNumbers_17 : decode b_R_requireNumbers 17 = .ok (.bipush (-40), 2) := by decide +kernel
theorem d_R_requireNumbers_19 : decode b_R_requireNumbers 19 = .ok (.bipush 40, 2) := by decide +kernel
theorem d_R_requireNumbers_21 : decode b_R_requireNumbers 21 = .ok (.invokestatic 60, 3) := by decide +kernel
theorem d_R_requireNumbers_24 : decode b_R_requireNumbers 24 = .ok (.return_, 1) := by decide +kernel
theorem d_R_requirePoint_0 : decode b_R_requirePoint 0 = .ok (.iload_n 1, 1) := by decide +kernel
theorem d_R_requirePoint_1 : decode b_R_requirePoint 1 = .ok (.iconst 0, 1) := by decide +kernel
theorem d_R_requirePoint_2 : decode b_R_requirePoint 2 = .ok (.aload_n 0, 1) := by decide +kernel
theorem d_R_requirePoint_3 : decode b_R_requirePoint 3 = .ok (.getfield 36, 3) := by decide +kernel
theorem d_R_requirePoint_6 : decode b_R_requirePoint 6 = .ok (.getfield 145, 3) := by decide +kernel
theorem d_R_requirePoint_9 : decode b_R_requirePoint 9 = .ok (.invokestatic 60, 3) := by decide +kernel
theorem d_R_requirePoint_12 : decode b_R_requirePoint 12 = .ok (.iload_n 2, 1) := by decide +kernel
theorem d_R_requirePoint_13 : decode b_R_requirePoint 13 = .ok (.iconst 0, 1) := by decide +kernel
theorem d_R_requirePoint_14 : decode b_R_requirePoint 14 = .ok (.aload_n 0, 1) := by decide +kernel
theorem d_R_requirePoint_15 : decode b_R_requirePoint 15 = .ok (.getfield 40, 3) := by decide +kernel
theorem d_R_requirePoint_18 : decode b_R_requirePoint 18 = .ok (.getfield 145, 3) := by decide +kernel
theorem d_R_requirePoint_21 : decode b_R_requirePoint 21 = .ok (.invokestatic 60, 3) := by decide +kernel
theorem d_R_requirePoint_24 : decode b_R_requirePoint 24 = .ok (.iload_n 3, 1) := by decide +kernel
theorem d_R_requirePoint_25 : decode b_R_requirePoint 25 = .ok (.iconst 0, 1) := by decide +kernel
theorem d_R_requirePoint_26 : decode b_R_requirePoint 26 = .ok (.aload_n 0, 1) := by decide +kernel
theorem d_R_requirePoint_27 : decode b_R_requirePoint 27 = .ok (.getfield 43, 3) := by decide +kernel
theorem d_R_requirePoint_30 : decode b_R_requirePoint 30 = .ok (.getfield 145, 3) := by decide +kernel
theorem d_R_requirePoint_33 : decode b_R_requirePoint 33 = .ok (.invokestatic 60, 3) := by decide +kernel
theorem d_R_requirePoint_36 : decode b_R_requirePoint 36 = .ok (.return_, 1) := by decide +kernel
theorem d_R_distanceOf_0 : decode b_R_distanceOf 0 = .ok (.aload_n 0, 1) := by decide +kernel
theorem d_R_distanceOf_1 : decode b_R_distanceOf 1 = .ok (.getfield 36, 3) := by decide +kernel
theorem d_R_distanceOf_4 : decode b_R_distanceOf 4 = .ok (.iload_n 1, 1) := by decide +kernel
theorem d_R_distanceOf_5 : decode b_R_distanceOf 5 = .ok (.invokevirtual 148, 3) := by decide +kernel
theorem d_R_distanceOf_8 : decode b_R_distanceOf 8 = .ok (.aload_n 0, 1) := by decide +kernel
theorem d_R_distanceOf_9 : decode b_R_distanceOf 9 = .ok (.getfield 40, 3) := by decide +kernel
theorem d_R_distanceOf_12 : decode b_R_distanceOf 12 = .ok (.iload_n 2, 1) := by decide +kernel
theorem d_R_distanceOf_13 : decode b_R_distanceOf 13 = .ok (.invokevirtual 148, 3) := by decide +kernel
theorem d_R_distanceOf_16 : decode b_R_distanceOf 16 = .ok (.ladd, 1) := by decide +kernel
theorem d_R_distanceOf_17 : decode b_R_distanceOf 17 = .ok (.aload_n 0, 1) := by decide +kernel
theorem d_R_distanceOf_18 : decode b_R_distanceOf 18 = .ok (.getfield 43, 3) := by decide +kernel
theorem d_R_distanceOf_21 : decode b_R_distanceOf 21 = .ok (.iload_n 3, 1) := by decide +kernel
theorem d_R_distanceOf_22 : decode b_R_distanceOf 22 = .ok (.invokevirtual 148, 3) := by decide +kernel
theorem d_R_distanceOf_25 : decode b_R_distanceOf 25 = .ok (.ladd, 1) := by decide +kernel
theorem d_R_distanceOf_26 : decode b_R_distanceOf 26 = .ok (.lreturn, 1) := by decide +kernel
theorem d_R_strengthOf_0 : decode b_R_strengthOf 0 = .ok (.ldc2_w 152, 3) := by decide +kernel
theorem d_R_strengthOf_3 : decode b_R_strengthOf 3 = .ok (.iload_n 1, 1) := by decide +kernel
theorem d_R_strengthOf_4 : decode b_R_strengthOf 4 = .ok (.aload_n 0, 1) := by decide +kernel
theorem d_R_strengthOf_5 : decode b_R_strengthOf 5 = .ok (.getfield 9, 3) := by decide +kernel
theorem d_R_strengthOf_8 : decode b_R_strengthOf 8 = .ok (.iconst 0, 1) := by decide +kernel
theorem d_R_strengthOf_9 : decode b_R_strengthOf 9 = .ok (.iaload, 1) := by decide +kernel
theorem d_R_strengthOf_10 : decode b_R_strengthOf 10 = .ok (.aload_n 0, 1) := by decide +kernel
theorem d_R_strengthOf_11 : decode b_R_strengthOf 11 = .ok (.getfield 9, 3) := by decide +kernel
theorem d_R_strengthOf_14 : decode b_R_strengthOf 14 = .ok (.iconst 1, 1) := by decide +kernel
theorem d_R_strengthOf_15 : decode b_R_strengthOf 15 = .ok (.iaload, 1) := by decide +kernel
theorem d_R_strengthOf_16 : decode b_R_strengthOf 16 = .ok (.invokestatic 154, 3) := by decide +kernel
theorem d_R_strengthOf_19 : decode b_R_strengthOf 19 = .ok (.lstore 4, 2) := by decide +kernel
theorem d_R_strengthOf_21 : decode b_R_strengthOf 21 = .ok (.lload 4, 2) := by decide +kernel
theorem d_R_strengthOf_23 : decode b_R_strengthOf 23 = .ok (.iload_n 2, 1) := by decide +kernel
theorem d_R_strengthOf_24 : decode b_R_strengthOf 24 = .ok (.aload_n 0, 1) := by decide +kernel
theorem d_R_strengthOf_25 : decode b_R_strengthOf 25 = .ok (.getfield 9, 3) := by decide +kernel
theorem d_R_strengthOf_28 : decode b_R_strengthOf 28 = .ok (.iconst 2, 1) := by decide +kernel
theorem d_R_strengthOf_29 : decode b_R_strengthOf 29 = .ok (.iaload, 1) := by decide +kernel
theorem d_R_strengthOf_30 : decode b_R_strengthOf 30 = .ok (.aload_n 0, 1) := by decide +kernel
theorem d_R_strengthOf_31 : decode b_R_strengthOf 31 = .ok (.getfield 9, 3) := by decide +kernel
theorem d_R_strengthOf_34 : decode b_R_strengthOf 34 = .ok (.iconst 3, 1) := by decide +kernel
theorem d_R_strengthOf_35 : decode b_R_strengthOf 35 = .ok (.iaload, 1) := by decide +kernel
theorem d_R_strengthOf_36 : decode b_R_strengthOf 36 = .ok (.invokestatic 154, 3) := by decide +kernel
theorem d_R_strengthOf_39 : decode b_R_strengthOf 39 = .ok (.lstore 6, 2) := by decide +kernel
theorem d_R_strengthOf_41 : decode b_R_strengthOf 41 = .ok (.lload 6, 2) := by decide +kernel
theorem d_R_strengthOf_43 : decode b_R_strengthOf 43 = .ok (.iload_n 3, 1) := by decide +kernel
theorem d_R_strengthOf_44 : decode b_R_strengthOf 44 = .ok (.aload_n 0, 1) := by decide +kernel
theorem d_R_strengthOf_45 : decode b_R_strengthOf 45 = .ok (.getfield 9, 3) := by decide +kernel
theorem d_R_strengthOf_48 : decode b_R_strengthOf 48 = .ok (.iconst 4, 1) := by decide +kernel
theorem d_R_strengthOf_49 : decode b_R_strengthOf 49 = .ok (.iaload, 1) := by decide +kernel
theorem d_R_strengthOf_50 : decode b_R_strengthOf 50 = .ok (.aload_n 0, 1) := by decide +kernel
theorem d_R_strengthOf_51 : decode b_R_strengthOf 51 = .ok (.getfield 9, 3) := by decide +kernel
theorem d_R_strengthOf_54 : decode b_R_strengthOf 54 = .ok (.iconst 5, 1) := by decide +kernel
theorem d_R_strengthOf_55 : decode b_R_strengthOf 55 = .ok (.iaload, 1) := by decide +kernel
theorem d_R_strengthOf_56 : decode b_R_strengthOf 56 = .ok (.invokestatic 154, 3) := by decide +kernel
theorem d_R_strengthOf_59 : decode b_R_strengthOf 59 = .ok (.lreturn, 1) := by decide +kernel
theorem d_R_strengthAfterAxis_0 : decode b_R_strengthAfterAxis 0 = .ok (.lload_n 0, 1) := by decide +kernel
theorem d_R_strengthAfterAxis_1 : decode b_R_strengthAfterAxis 1 = .ok (.iload_n 2, 1) := by decide +kernel
theorem d_R_strengthAfterAxis_2 : decode b_R_strengthAfterAxis 2 = .ok (.invokestatic 157, 3) := by decide +kernel
theorem d_R_strengthAfterAxis_5 : decode b_R_strengthAfterAxis 5 = .ok (.iload_n 3, 1) := by decide +kernel
theorem d_R_strengthAfterAxis_6 : decode b_R_strengthAfterAxis 6 = .ok (.invokestatic 160, 3) := by decide +kernel
theorem d_R_strengthAfterAxis_9 : decode b_R_strengthAfterAxis 9 = .ok (.lstore 5, 2) := by decide +kernel
theorem d_R_strengthAfterAxis_11 : decode b_R_strengthAfterAxis 11 = .ok (.lload 5, 2) := by decide +kernel
theorem d_R_strengthAfterAxis_13 : decode b_R_strengthAfterAxis 13 = .ok (.iload_n 2, 1) := by decide +kernel
theorem d_R_strengthAfterAxis_14 : decode b_R_strengthAfterAxis 14 = .ok (.invokestatic 164, 3) := by decide +kernel
theorem d_R_strengthAfterAxis_17 : decode b_R_strengthAfterAxis 17 = .ok (.iload 4, 2) := by decide +kernel
theorem d_R_strengthAfterAxis_19 : decode b_R_strengthAfterAxis 19 = .ok (.invokestatic 160, 3) := by decide +kernel
theorem d_R_strengthAfterAxis_22 : decode b_R_strengthAfterAxis 22 = .ok (.lreturn, 1) := by decide +kernel
theorem d_R_strengthAfterHits_0 : decode b_R_strengthAfterHits 0 = .ok (.lload_n 0, 1) := by decide +kernel
theorem d_R_strengthAfterHits_1 : decode b_R_strengthAfterHits 1 = .ok (.lstore 4, 2) := by decide +kernel
theorem d_R_strengthAfterHits_3 : decode b_R_strengthAfterHits 3 = .ok (.iconst 0, 1) := by decide +kernel
theorem d_R_strengthAfterHits_4 : decode b_R_strengthAfterHits 4 = .ok (.istore 6, 2) := by decide +kernel
theorem d_R_strengthAfterHits_6 : decode b_R_strengthAfterHits 6 = .ok (.iload 6, 2) := by decide +kernel
theorem d_R_strengthAfterHits_8 : decode b_R_strengthAfterHits 8 = .ok (.iload_n 2, 1) := by decide +kernel
theorem d_R_strengthAfterHits_9 : decode b_R_strengthAfterHits 9 = .ok (.if_icmp .ge 20, 3) := by decide +kernel
theorem d_R_strengthAfterHits_12 : decode b_R_strengthAfterHits 12 = .ok (.lload 4, 2) := by decide +kernel
theorem d_R_strengthAfterHits_14 : decode b_R_strengthAfterHits 14 = .ok (.iload_n 3, 1) := by decide +kernel
theorem d_R_strengthAfterHits_15 : decode b_R_strengthAfterHits 15 = .ok (.i2l, 1) := by decide +kernel
theorem d_R_strengthAfterHits_16 : decode b_R_strengthAfterHits 16 = .ok (.lmul, 1) := by decide +kernel
theorem d_R_strengthAfterHits_17 : decode b_R_strengthAfterHits 17 = .ok (.ldc2_w 123, 3) := by decide +kernel
theorem d_R_strengthAfterHits_20 : decode b_R_strengthAfterHits 20 = .ok (.ldiv, 1) := by decide +kernel
theorem d_R_strengthAfterHits_21 : decode b_R_strengthAfterHits 21 = .ok (.lstore 4, 2) := by decide +kernel
theorem d_R_strengthAfterHits_23 : decode b_R_strengthAfterHits 23 = .ok (.iinc 6 1, 3) := by decide +kernel
theorem d_R_strengthAfterHits_26 : decode b_R_strengthAfterHits 26 = .ok (.goto (-20), 3) := by decide +kernel
theorem d_R_strengthAfterHits_29 : decode b_R_strengthAfterHits 29 = .ok (.lload 4, 2) := by decide +kernel
theorem d_R_strengthAfterHits_31 : decode b_R_strengthAfterHits 31 = .ok (.lreturn, 1) := by decide +kernel
theorem d_R_hitsAtZero_0 : decode b_R_hitsAtZero 0 = .ok (.iload_n 0, 1) := by decide +kernel
theorem d_R_hitsAtZero_1 : decode b_R_hitsAtZero 1 = .ok (.ifCond .lt 9, 3) := by decide +kernel
theorem d_R_hitsAtZero_4 : decode b_R_hitsAtZero 4 = .ok (.iload_n 0, 1) := by decide +kernel
theorem d_R_hitsAtZero_5 : decode b_R_hitsAtZero 5 = .ok (.iconst 2, 1) := by decide +kernel
theorem d_R_hitsAtZero_6 : decode b_R_hitsAtZero 6 = .ok (.idiv, 1) := by decide +kernel
theorem d_R_hitsAtZero_7 : decode b_R_hitsAtZero 7 = .ok (.goto 8, 3) := by decide +kernel
theorem d_R_hitsAtZero_10 : decode b_R_hitsAtZero 10 = .ok (.iconst 1, 1) := by decide +kernel
theorem d_R_hitsAtZero_11 : decode b_R_hitsAtZero 11 = .ok (.iload_n 0, 1) := by decide +kernel
theorem d_R_hitsAtZero_12 : decode b_R_hitsAtZero 12 = .ok (.isub, 1) := by decide +kernel
theorem d_R_hitsAtZero_13 : decode b_R_hitsAtZero 13 = .ok (.iconst 2, 1) := by decide +kernel
theorem d_R_hitsAtZero_14 : decode b_R_hitsAtZero 14 = .ok (.idiv, 1) := by decide +kernel
theorem d_R_hitsAtZero_15 : decode b_R_hitsAtZero 15 = .ok (.ireturn, 1) := by decide +kernel
theorem d_R_hitsAtSize_0 : decode b_R_hitsAtSize 0 = .ok (.iload_n 0, 1) := by decide +kernel
theorem d_R_hitsAtSize_1 : decode b_R_hitsAtSize 1 = .ok (.ifCond .lt 11, 3) := by decide +kernel
theorem d_R_hitsAtSize_4 : decode b_R_hitsAtSize 4 = .ok (.iload_n 0, 1) := by decide +kernel
theorem d_R_hitsAtSize_5 : decode b_R_hitsAtSize 5 = .ok (.iconst 1, 1) := by decide +kernel
theorem d_R_hitsAtSize_6 : decode b_R_hitsAtSize 6 = .ok (.iadd, 1) := by decide +kernel
theorem d_R_hitsAtSize_7 : decode b_R_hitsAtSize 7 = .ok (.iconst 2, 1) := by decide +kernel
theorem d_R_hitsAtSize_8 : decode b_R_hitsAtSize 8 = .ok (.idiv, 1) := by decide +kernel
theorem d_R_hitsAtSize_9 : decode b_R_hitsAtSize 9 = .ok (.goto 7, 3) := by decide +kernel
theorem d_R_hitsAtSize_12 : decode b_R_hitsAtSize 12 = .ok (.iload_n 0, 1) := by decide +kernel
theorem d_R_hitsAtSize_13 : decode b_R_hitsAtSize 13 = .ok (.ineg, 1) := by decide +kernel
theorem d_R_hitsAtSize_14 : decode b_R_hitsAtSize 14 = .ok (.iconst 2, 1) := by decide +kernel
theorem d_R_hitsAtSize_15 : decode b_R_hitsAtSize 15 = .ok (.idiv, 1) := by decide +kernel
theorem d_R_hitsAtSize_16 : decode b_R_hitsAtSize 16 = .ok (.ireturn, 1) := by decide +kernel
theorem d_R_hitsOn_0 : decode b_R_hitsOn 0 = .ok (.iload_n 0, 1) := by decide +kernel
theorem d_R_hitsOn_1 : decode b_R_hitsOn 1 = .ok (.invokestatic 157, 3) := by decide +kernel
theorem d_R_hitsOn_4 : decode b_R_hitsOn 4 = .ok (.iload_n 0, 1) := by decide +kernel
theorem d_R_hitsOn_5 : decode b_R_hitsOn 5 = .ok (.invokestatic 164, 3) := by decide +kernel
theorem d_R_hitsOn_8 : decode b_R_hitsOn 8 = .ok (.iadd, 1) := by decide +kernel
theorem d_R_hitsOn_9 : decode b_R_hitsOn 9 = .ok (.ireturn, 1) := by decide +kernel
theorem d_R_hitsOf_0 : decode b_R_hitsOf 0 = .ok (.iload_n 0, 1) := by decide +kernel
theorem d_R_hitsOf_1 : decode b_R_hitsOf 1 = .ok (.invokestatic 167, 3) := by decide +kernel
theorem d_R_hitsOf_4 : decode b_R_hitsOf 4 = .ok (.iload_n 1, 1) := by decide +kernel
theorem d_R_hitsOf_5 : decode b_R_hitsOf 5 = .ok (.invokestatic 167, 3) := by decide +kernel
theorem d_R_hitsOf_8 : decode b_R_hitsOf 8 = .ok (.iadd, 1) := by decide +kernel
theorem d_R_hitsOf_9 : decode b_R_hitsOf 9 = .ok (.iload_n 2, 1) := by decide +kernel
theorem d_R_hitsOf_10 : decode b_R_hitsOf 10 = .ok (.invokestatic 167, 3) := by decide +kernel
theorem d_R_hitsOf_13 : decode b_R_hitsOf 13 = .ok (.iadd, 1) := by decide +kernel
theorem d_R_hitsOf_14 : decode b_R_hitsOf 14 = .ok (.ireturn, 1) := by decide +kernel
theorem d_R_loudnessOf_0 : decode b_R_loudnessOf 0 = .ok (.lconst 1, 1) := by decide +kernel
theorem d_R_loudnessOf_1 : decode b_R_loudnessOf 1 = .ok (.lload_n 2, 1) := by decide +kernel
theorem d_R_loudnessOf_2 : decode b_R_loudnessOf 2 = .ok (.ladd, 1) := by decide +kernel
theorem d_R_loudnessOf_3 : decode b_R_loudnessOf 3 = .ok (.lstore 4, 2) := by decide +kernel
theorem d_R_loudnessOf_5 : decode b_R_loudnessOf 5 = .ok (.lload 4, 2) := by decide +kernel
theorem d_R_loudnessOf_7 : decode b_R_loudnessOf 7 = .ok (.lconst 0, 1) := by decide +kernel
theorem d_R_loudnessOf_8 : decode b_R_loudnessOf 8 = .ok (.lcmp, 1) := by decide +kernel
theorem d_R_loudnessOf_9 : decode b_R_loudnessOf 9 = .ok (.ifCond .le 10, 3) := by decide +kernel
theorem d_R_loudnessOf_12 : decode b_R_loudnessOf 12 = .ok (.lload_n 0, 1) := by decide +kernel
theorem d_R_loudnessOf_13 : decode b_R_loudnessOf 13 = .ok (.lload 4, 2) := by decide +kernel
theorem d_R_loudnessOf_15 : decode b_R_loudnessOf 15 = .ok (.ldiv, 1) := by decide +kernel
theorem d_R_loudnessOf_16 : decode b_R_loudnessOf 16 = .ok (.goto 4, 3) := by decide +kernel
theorem d_R_loudnessOf_19 : decode b_R_loudnessOf 19 = .ok (.lconst 0, 1) := by decide +kernel
theorem d_R_loudnessOf_20 : decode b_R_loudnessOf 20 = .ok (.lreturn, 1) := by decide +kernel
theorem d_R_keyOf_0 : decode b_R_keyOf 0 = .ok (.lload_n 0, 1) := by decide +kernel
theorem d_R_keyOf_1 : decode b_R_keyOf 1 = .ok (.iload_n 2, 1) := by decide +kernel
theorem d_R_keyOf_2 : decode b_R_keyOf 2 = .ok (.invokestatic 170, 3) := by decide +kernel
theorem d_R_keyOf_5 : decode b_R_keyOf 5 = .ok (.lstore 5, 2) := by decide +kernel
theorem d_R_keyOf_7 : decode b_R_keyOf 7 = .ok (.lload 5, 2) := by decide +kernel
theorem d_R_keyOf_9 : decode b_R_keyOf 9 = .ok (.iload_n 3, 1) := by decide +kernel
theorem d_R_keyOf_10 : decode b_R_keyOf 10 = .ok (.invokestatic 170, 3) := by decide +kernel
theorem d_R_keyOf_13 : decode b_R_keyOf 13 = .ok (.lstore 5, 2) := by decide +kernel
theorem d_R_keyOf_15 : decode b_R_keyOf 15 = .ok (.lload 5, 2) := by decide +kernel
theorem d_R_keyOf_17 : decode b_R_keyOf 17 = .ok (.iload 4, 2) := by decide +kernel
theorem d_R_keyOf_19 : decode b_R_keyOf 19 = .ok (.invokestatic 170, 3) := by decide +kernel
theorem d_R_keyOf_22 : decode b_R_keyOf 22 = .ok (.lreturn, 1) := by decide +kernel
theorem d_R_withNumberBelow_0 : decode b_R_withNumberBelow 0 = .ok (.lload_n 0, 1) := by decide +kernel
theorem d_R_withNumberBelow_1 : decode b_R_withNumberBelow 1 = .ok (.bipush 7, 2) := by decide +kernel
theorem d_R_withNumberBelow_3 : decode b_R_withNumberBelow 3 = .ok (.lshl, 1) := by decide +kernel
theorem d_R_withNumberBelow_4 : decode b_R_withNumberBelow 4 = .ok (.iload_n 2, 1) := by decide +kernel
theorem d_R_withNumberBelow_5 : decode b_R_withNumberBelow 5 = .ok (.bipush 40, 2) := by decide +kernel
theorem d_R_withNumberBelow_7 : decode b_R_withNumberBelow 7 = .ok (.iadd, 1) := by decide +kernel
theorem d_R_withNumberBelow_8 : decode b_R_withNumberBelow 8 = .ok (.i2l, 1) := by decide +kernel
theorem d_R_withNumberBelow_9 : decode b_R_withNumberBelow 9 = .ok (.lor, 1) := by decide +kernel
theorem d_R_withNumberBelow_10 : decode b_R_withNumberBelow 10 = .ok (.lreturn, 1) := by decide +kernel
theorem d_R_lowestNumberIn_0 : decode b_R_lowestNumberIn 0 = .ok (.lload_n 0, 1) := by decide +kernel
theorem d_R_lowestNumberIn_1 : decode b_R_lowestNumberIn 1 = .ok (.ldc2_w 174, 3) := by decide +kernel
theorem d_R_lowestNumberIn_4 : decode b_R_lowestNumberIn 4 = .ok (.land, 1) := by decide +kernel
theorem d_R_lowestNumberIn_5 : decode b_R_lowestNumberIn 5 = .ok (.l2i, 1) := by decide +kernel
theorem d_R_lowestNumberIn_6 : decode b_R_lowestNumberIn 6 = .ok (.bipush 40, 2) := by decide +kernel
theorem d_R_lowestNumberIn_8 : decode b_R_lowestNumberIn 8 = .ok (.isub, 1) := by decide +kernel
theorem d_R_lowestNumberIn_9 : decode b_R_lowestNumberIn 9 = .ok (.ireturn, 1) := by decide +kernel
theorem d_R_distanceIn_0 : decode b_R_distanceIn 0 = .ok (.lload_n 0, 1) := by decide +kernel
theorem d_R_distanceIn_1 : decode b_R_distanceIn 1 = .ok (.bipush 21, 2) := by decide +kernel
theorem d_R_distanceIn_3 : decode b_R_distanceIn 3 = .ok (.lshr, 1) := by decide +kernel
theorem d_R_distanceIn_4 : decode b_R_distanceIn 4 = .ok (.lreturn, 1) := by decide +kernel
theorem d_R_firstNumberIn_0 : decode b_R_firstNumberIn 0 = .ok (.lload_n 0, 1) := by decide +kernel
theorem d_R_firstNumberIn_1 : decode b_R_firstNumberIn 1 = .ok (.bipush 14, 2) := by decide +kernel
theorem d_R_firstNumberIn_3 : decode b_R_firstNumberIn 3 = .ok (.lshr, 1) := by decide +kernel
theorem d_R_firstNumberIn_4 : decode b_R_firstNumberIn 4 = .ok (.invokestatic 176, 3) := by decide +kernel
theorem d_R_firstNumberIn_7 : decode b_R_firstNumberIn 7 = .ok (.ireturn, 1) := by decide +kernel
theorem d_R_secondNumberIn_0 : decode b_R_secondNumberIn 0 = .ok (.lload_n 0, 1) := by decide +kernel
theorem d_R_secondNumberIn_1 : decode b_R_secondNumberIn 1 = .ok (.bipush 7, 2) := by decide +kernel
theorem d_R_secondNumberIn_3 : decode b_R_secondNumberIn 3 = .ok (.lshr, 1) := by decide +kernel
theorem d_R_secondNumberIn_4 : decode b_R_secondNumberIn 4 = .ok (.invokestatic 176, 3) := by decide +kernel
theorem d_R_secondNumberIn_7 : decode b_R_secondNumberIn 7 = .ok (.ireturn, 1) := by decide +kernel
theorem d_R_thirdNumberIn_0 : decode b_R_thirdNumberIn 0 = .ok (.lload_n 0, 1) := by decide +kernel
theorem d_R_thirdNumberIn_1 : decode b_R_thirdNumberIn 1 = .ok (.invokestatic 176, 3) := by decide +kernel
theorem d_R_thirdNumberIn_4 : decode b_R_thirdNumberIn 4 = .ok (.ireturn, 1) := by decide +kernel
theorem d_R_forgetOrder_0 : decode b_R_forgetOrder 0 = .ok (.aload_n 0, 1) := by decide +kernel
theorem d_R_forgetOrder_1 : decode b_R_forgetOrder 1 = .ok (.iconst 0, 1) := by decide +kernel
theorem d_R_forgetOrder_2 : decode b_R_forgetOrder 2 = .ok (.putfield 179, 3) := by decide +kernel
theorem d_R_forgetOrder_5 : decode b_R_forgetOrder 5 = .ok (.aload_n 0, 1) := by decide +kernel
theorem d_R_forgetOrder_6 : decode b_R_forgetOrder 6 = .ok (.iconst 0, 1) := by decide +kernel
theorem d_R_forgetOrder_7 : decode b_R_forgetOrder 7 = .ok (.putfield 63, 3) := by decide +kernel
theorem d_R_forgetOrder_10 : decode b_R_forgetOrder 10 = .ok (.return_, 1) := by decide +kernel
theorem d_R_orderEchoes_0 : decode b_R_orderEchoes 0 = .ok (.aload_n 0, 1) := by decide +kernel
theorem d_R_orderEchoes_1 : decode b_R_orderEchoes 1 = .ok (.getfield 179, 3) := by decide +kernel
theorem d_R_orderEchoes_4 : decode b_R_orderEchoes 4 = .ok (.ifCond .eq 4, 3) := by decide +kernel
theorem d_R_orderEchoes_7 : decode b_R_orderEchoes 7 = .ok (.return_, 1) := by decide +kernel
theorem d_R_orderEchoes_8 : decode b_R_orderEchoes 8 = .ok (.aload_n 0, 1) := by decide +kernel
theorem d_R_orderEchoes_9 : decode b_R_orderEchoes 9 = .ok (.getfield 36, 3) := by decide +kernel
theorem d_R_orderEchoes_12 : decode b_R_orderEchoes 12 = .ok (.invokevirtual 182, 3) := by decide +kernel
theorem d_R_orderEchoes_15 : decode b_R_orderEchoes 15 = .ok (.aload_n 0, 1) := by decide +kernel
theorem d_R_orderEchoes_16 : decode b_R_orderEchoes 16 = .ok (.getfield 40, 3) := by decide +kernel
theorem d_R_orderEchoes_19 : decode b_R_orderEchoes 19 = .ok (.invokevirtual 182, 3) := by decide +kernel
theorem d_R_orderEchoes_22 : decode b_R_orderEchoes 22 = .ok (.aload_n 0, 1) := by decide +kernel
theorem d_R_orderEchoes_23 : decode b_R_orderEchoes 23 = .ok (.getfield 43, 3) := by decide +kernel
theorem d_R_orderEchoes_26 : decode b_R_orderEchoes 26 = .ok (.invokevirtual 182, 3) := by decide +kernel
theorem d_R_orderEchoes_29 : decode b_R_orderEchoes 29 = .ok (.aload_n 0, 1) := by decide +kernel
theorem d_R_orderEchoes_30 : decode b_R_orderEchoes 30 = .ok (.getfield 16, 3) := by decide +kernel
theorem d_R_orderEchoes_33 : decode b_R_orderEchoes 33 = .ok (.invokevirtual 185, 3) := by decide +kernel
theorem d_R_orderEchoes_36 : decode b_R_orderEchoes 36 = .ok (.aload_n 0, 1) := by decide +kernel
theorem d_R_orderEchoes_37 : decode b_R_orderEchoes 37 = .ok (.iconst 0, 1) := by decide +kernel
theorem d_R_orderEchoes_38 : decode b_R_orderEchoes 38 = .ok (.iconst 0, 1) := by decide +kernel
theorem d_R_orderEchoes_39 : decode b_R_orderEchoes 39 = .ok (.iconst 0, 1) := by decide +kernel
theorem d_R_orderEchoes_40 : decode b_R_orderEchoes 40 = .ok (.invokevirtual 188, 3) := by decide +kernel
theorem d_R_orderEchoes_43 : decode b_R_orderEchoes 43 = .ok (.iconst 0, 1) := by decide +kernel
end
section
theorem d_R_orderEchoes_44 : decode b_R_orderEchoes 44 = .ok (.istore_n 1, 1) := by decide +kernel
theorem d_R_orderEchoes_45 : decode b_R_orderEchoes 45 = .ok (.iload_n 1, 1) := by decide +kernel
theorem d_R_orderEchoes_46 : decode b_R_orderEchoes 46 = .ok (.sipush 500, 3) := by decide +kernel
theorem d_R_orderEchoes_49 : decode b_R_orderEchoes 49 = .ok (.if_icmp .ge 29, 3) := by decide +kernel
theorem d_R_orderEchoes_52 : decode b_R_orderEchoes 52 = .ok (.aload_n 0, 1) := by decide +kernel
theorem d_R_orderEchoes_53 : decode b_R_orderEchoes 53 = .ok (.getfield 16, 3) := by decide +kernel
theorem d_R_orderEchoes_56 : decode b_R_orderEchoes 56 = .ok (.invokevirtual 191, 3) := by decide +kernel
theorem d_R_orderEchoes_59 : decode b_R_orderEchoes 59 = .ok (.lstore_n 2, 1) := by decide +kernel
theorem d_R_orderEchoes_60 : decode b_R_orderEchoes 60 = .ok (.aload_n 0, 1) := by decide +kernel
theorem d_R_orderEchoes_61 : decode b_R_orderEchoes 61 = .ok (.getfield 20, 3) := by decide +kernel
theorem d_R_orderEchoes_64 : decode b_R_orderEchoes 64 = .ok (.iload_n 1, 1) := by decide +kernel
theorem d_R_orderEchoes_65 : decode b_R_orderEchoes 65 = .ok (.lload_n 2, 1) := by decide +kernel
theorem d_R_orderEchoes_66 : decode b_R_orderEchoes 66 = .ok (.lastore, 1) := by decide +kernel
theorem d_R_orderEchoes_67 : decode b_R_orderEchoes 67 = .ok (.aload_n 0, 1) := by decide +kernel
theorem d_R_orderEchoes_68 : decode b_R_orderEchoes 68 = .ok (.lload_n 2, 1) := by decide +kernel
theorem d_R_orderEchoes_69 : decode b_R_orderEchoes 69 = .ok (.invokevirtual 195, 3) := by decide +kernel
theorem d_R_orderEchoes_72 : decode b_R_orderEchoes 72 = .ok (.iinc 1 1, 3) := by decide +kernel
theorem d_R_orderEchoes_75 : decode b_R_orderEchoes 75 = .ok (.goto (-30), 3) := by decide +kernel
theorem d_R_orderEchoes_78 : decode b_R_orderEchoes 78 = .ok (.aload_n 0, 1) := by decide +kernel
theorem d_R_orderEchoes_79 : decode b_R_orderEchoes 79 = .ok (.iconst 1, 1) := by decide +kernel
theorem d_R_orderEchoes_80 : decode b_R_orderEchoes 80 = .ok (.putfield 179, 3) := by decide +kernel
theorem d_R_orderEchoes_83 : decode b_R_orderEchoes 83 = .ok (.return_, 1) := by decide +kernel
theorem d_R_addFollowers_0 : decode b_R_addFollowers 0 = .ok (.aload_n 0, 1) := by decide +kernel
theorem d_R_addFollowers_1 : decode b_R_addFollowers 1 = .ok (.getfield 36, 3) := by decide +kernel
theorem d_R_addFollowers_4 : decode b_R_addFollowers 4 = .ok (.lload_n 1, 1) := by decide +kernel
theorem d_R_addFollowers_5 : decode b_R_addFollowers 5 = .ok (.invokestatic 88, 3) := by decide +kernel
theorem d_R_addFollowers_8 : decode b_R_addFollowers 8 = .ok (.invokevirtual 198, 3) := by decide +kernel
theorem d_R_addFollowers_11 : decode b_R_addFollowers 11 = .ok (.istore_n 3, 1) := by decide +kernel
theorem d_R_addFollowers_12 : decode b_R_addFollowers 12 = .ok (.aload_n 0, 1) := by decide +kernel
theorem d_R_addFollowers_13 : decode b_R_addFollowers 13 = .ok (.getfield 40, 3) := by decide +kernel
theorem d_R_addFollowers_16 : decode b_R_addFollowers 16 = .ok (.lload_n 1, 1) := by decide +kernel
theorem d_R_addFollowers_17 : decode b_R_addFollowers 17 = .ok (.invokestatic 92, 3) := by decide +kernel
theorem d_R_addFollowers_20 : decode b_R_addFollowers 20 = .ok (.invokevirtual 198, 3) := by decide +kernel
theorem d_R_addFollowers_23 : decode b_R_addFollowers 23 = .ok (.istore 4, 2) := by decide +kernel
theorem d_R_addFollowers_25 : decode b_R_addFollowers 25 = .ok (.aload_n 0, 1) := by decide +kernel
theorem d_R_addFollowers_26 : decode b_R_addFollowers 26 = .ok (.getfield 43, 3) := by decide +kernel
theorem d_R_addFollowers_29 : decode b_R_addFollowers 29 = .ok (.lload_n 1, 1) := by decide +kernel
theorem d_R_addFollowers_30 : decode b_R_addFollowers 30 = .ok (.invokestatic 95, 3) := by decide +kernel
theorem d_R_addFollowers_33 : decode b_R_addFollowers 33 = .ok (.invokevirtual 198, 3) := by decide +kernel
theorem d_R_addFollowers_36 : decode b_R_addFollowers 36 = .ok (.istore 5, 2) := by decide +kernel
theorem d_R_addFollowers_38 : decode b_R_addFollowers 38 = .ok (.aload_n 0, 1) := by decide +kernel
theorem d_R_addFollowers_39 : decode b_R_addFollowers 39 = .ok (.iload_n 3, 1) := by decide +kernel
theorem d_R_addFollowers_40 : decode b_R_addFollowers 40 = .ok (.iload 4, 2) := by decide +kernel
theorem d_R_addFollowers_42 : decode b_R_addFollowers 42 = .ok (.iload 5, 2) := by decide +kernel
theorem d_R_addFollowers_44 : decode b_R_addFollowers 44 = .ok (.iconst 1, 1) := by decide +kernel
theorem d_R_addFollowers_45 : decode b_R_addFollowers 45 = .ok (.iadd, 1) := by decide +kernel
theorem d_R_addFollowers_46 : decode b_R_addFollowers 46 = .ok (.invokevirtual 188, 3) := by decide +kernel
theorem d_R_addFollowers_49 : decode b_R_addFollowers 49 = .ok (.iload 5, 2) := by decide +kernel
theorem d_R_addFollowers_51 : decode b_R_addFollowers 51 = .ok (.ifCond .ne 13, 3) := by decide +kernel
theorem d_R_addFollowers_54 : decode b_R_addFollowers 54 = .ok (.aload_n 0, 1) := by decide +kernel
theorem d_R_addFollowers_55 : decode b_R_addFollowers 55 = .ok (.iload_n 3, 1) := by decide +kernel
theorem d_R_addFollowers_56 : decode b_R_addFollowers 56 = .ok (.iload 4, 2) := by decide +kernel
theorem d_R_addFollowers_58 : decode b_R_addFollowers 58 = .ok (.iconst 1, 1) := by decide +kernel
theorem d_R_addFollowers_59 : decode b_R_addFollowers 59 = .ok (.iadd, 1) := by decide +kernel
theorem d_R_addFollowers_60 : decode b_R_addFollowers 60 = .ok (.iconst 0, 1) := by decide +kernel
theorem d_R_addFollowers_61 : decode b_R_addFollowers 61 = .ok (.invokevirtual 188, 3) := by decide +kernel
theorem d_R_addFollowers_64 : decode b_R_addFollowers 64 = .ok (.iload 5, 2) := by decide +kernel
theorem d_R_addFollowers_66 : decode b_R_addFollowers 66 = .ok (.ifCond .ne 17, 3) := by decide +kernel
theorem d_R_addFollowers_69 : decode b_R_addFollowers 69 = .ok (.iload 4, 2) := by decide +kernel
theorem d_R_addFollowers_71 : decode b_R_addFollowers 71 = .ok (.ifCond .ne 12, 3) := by decide +kernel
theorem d_R_addFollowers_74 : decode b_R_addFollowers 74 = .ok (.aload_n 0, 1) := by decide +kernel
theorem d_R_addFollowers_75 : decode b_R_addFollowers 75 = .ok (.iload_n 3, 1) := by decide +kernel
theorem d_R_addFollowers_76 : decode b_R_addFollowers 76 = .ok (.iconst 1, 1) := by decide +kernel
theorem d_R_addFollowers_77 : decode b_R_addFollowers 77 = .ok (.iadd, 1) := by decide +kernel
theorem d_R_addFollowers_78 : decode b_R_addFollowers 78 = .ok (.iconst 0, 1) := by decide +kernel
theorem d_R_addFollowers_79 : decode b_R_addFollowers 79 = .ok (.iconst 0, 1) := by decide +kernel
theorem d_R_addFollowers_80 : decode b_R_addFollowers 80 = .ok (.invokevirtual 188, 3) := by decide +kernel
theorem d_R_addFollowers_83 : decode b_R_addFollowers 83 = .ok (.return_, 1) := by decide +kernel
theorem d_R_addAtRanks_0 : decode b_R_addAtRanks 0 = .ok (.iload_n 1, 1) := by decide +kernel
theorem d_R_addAtRanks_1 : decode b_R_addAtRanks 1 = .ok (.bipush 81, 2) := by decide +kernel
theorem d_R_addAtRanks_3 : decode b_R_addAtRanks 3 = .ok (.if_icmp .ge 79, 3) := by decide +kernel
theorem d_R_addAtRanks_6 : decode b_R_addAtRanks 6 = .ok (.iload_n 2, 1) := by decide +kernel
theorem d_R_addAtRanks_7 : decode b_R_addAtRanks 7 = .ok (.bipush 81, 2) := by decide +kernel
theorem d_R_addAtRanks_9 : decode b_R_addAtRanks 9 = .ok (.if_icmp .ge 73, 3) := by decide +kernel
theorem d_R_addAtRanks_12 : decode b_R_addAtRanks 12 = .ok (.iload_n 3, 1) := by decide +kernel
theorem d_R_addAtRanks_13 : decode b_R_addAtRanks 13 = .ok (.bipush 81, 2) := by decide +kernel
theorem d_R_addAtRanks_15 : decode b_R_addAtRanks 15 = .ok (.if_icmp .ge 67, 3) := by decide +kernel
theorem d_R_addAtRanks_18 : decode b_R_addAtRanks 18 = .ok (.aload_n 0, 1) := by decide +kernel
theorem d_R_addAtRanks_19 : decode b_R_addAtRanks 19 = .ok (.getfield 36, 3) := by decide +kernel
theorem d_R_addAtRanks_22 : decode b_R_addAtRanks 22 = .ok (.iload_n 1, 1) := by decide +kernel
theorem d_R_addAtRanks_23 : decode b_R_addAtRanks 23 = .ok (.invokevirtual 201, 3) := by decide +kernel
theorem d_R_addAtRanks_26 : decode b_R_addAtRanks 26 = .ok (.aload_n 0, 1) := by decide +kernel
theorem d_R_addAtRanks_27 : decode b_R_addAtRanks 27 = .ok (.getfield 40, 3) := by decide +kernel
theorem d_R_addAtRanks_30 : decode b_R_addAtRanks 30 = .ok (.iload_n 2, 1) := by decide +kernel
theorem d_R_addAtRanks_31 : decode b_R_addAtRanks 31 = .ok (.invokevirtual 201, 3) := by decide +kernel
theorem d_R_addAtRanks_34 : decode b_R_addAtRanks 34 = .ok (.ladd, 1) := by decide +kernel
theorem d_R_addAtRanks_35 : decode b_R_addAtRanks 35 = .ok (.aload_n 0, 1) := by decide +kernel
theorem d_R_addAtRanks_36 : decode b_R_addAtRanks 36 = .ok (.getfield 43, 3) := by decide +kernel
theorem d_R_addAtRanks_39 : decode b_R_addAtRanks 39 = .ok (.iload_n 3, 1) := by decide +kernel
theorem d_R_addAtRanks_40 : decode b_R_addAtRanks 40 = .ok (.invokevirtual 201, 3) := by decide +kernel
theorem d_R_addAtRanks_43 : decode b_R_addAtRanks 43 = .ok (.ladd, 1) := by decide +kernel
theorem d_R_addAtRanks_44 : decode b_R_addAtRanks 44 = .ok (.lstore 4, 2) := by decide +kernel
theorem d_R_addAtRanks_46 : decode b_R_addAtRanks 46 = .ok (.aload_n 0, 1) := by decide +kernel
theorem d_R_addAtRanks_47 : decode b_R_addAtRanks 47 = .ok (.getfield 16, 3) := by decide +kernel
theorem d_R_addAtRanks_50 : decode b_R_addAtRanks 50 = .ok (.lload 4, 2) := by decide +kernel
theorem d_R_addAtRanks_52 : decode b_R_addAtRanks 52 = .ok (.aload_n 0, 1) := by decide +kernel
theorem d_R_addAtRanks_53 : decode b_R_addAtRanks 53 = .ok (.getfield 36, 3) := by decide +kernel
theorem d_R_addAtRanks_56 : decode b_R_addAtRanks 56 = .ok (.iload_n 1, 1) := by decide +kernel
theorem d_R_addAtRanks_57 : decode b_R_addAtRanks 57 = .ok (.invokevirtual 204, 3) := by decide +kernel
theorem d_R_addAtRanks_60 : decode b_R_addAtRanks 60 = .ok (.aload_n 0, 1) := by decide +kernel
theorem d_R_addAtRanks_61 : decode b_R_addAtRanks 61 = .ok (.getfield 40, 3) := by decide +kernel
theorem d_R_addAtRanks_64 : decode b_R_addAtRanks 64 = .ok (.iload_n 2, 1) := by decide +kernel
theorem d_R_addAtRanks_65 : decode b_R_addAtRanks 65 = .ok (.invokevirtual 204, 3) := by decide +kernel
theorem d_R_addAtRanks_68 : decode b_R_addAtRanks 68 = .ok (.aload_n 0, 1) := by decide +kernel
theorem d_R_addAtRanks_69 : decode b_R_addAtRanks 69 = .ok (.getfield 43, 3) := by decide +kernel
theorem d_R_addAtRanks_72 : decode b_R_addAtRanks 72 = .ok (.iload_n 3, 1) := by decide +kernel
theorem d_R_addAtRanks_73 : decode b_R_addAtRanks 73 = .ok (.invokevirtual 204, 3) := by decide +kernel
theorem d_R_addAtRanks_76 : decode b_R_addAtRanks 76 = .ok (.invokestatic 102, 3) := by decide +kernel
theorem d_R_addAtRanks_79 : decode b_R_addAtRanks 79 = .ok (.invokevirtual 207, 3) := by decide +kernel
theorem d_R_addAtRanks_82 : decode b_R_addAtRanks 82 = .ok (.return_, 1) := by decide +kernel
theorem d_R_weighEchoes_0 : decode b_R_weighEchoes 0 = .ok (.aload_n 0, 1) := by decide +kernel
theorem d_R_weighEchoes_1 : decode b_R_weighEchoes 1 = .ok (.invokevirtual 85, 3) := by decide +kernel
theorem d_R_weighEchoes_4 : decode b_R_weighEchoes 4 = .ok (.aload_n 0, 1) := by decide +kernel
theorem d_R_weighEchoes_5 : decode b_R_weighEchoes 5 = .ok (.getfield 63, 3) := by decide +kernel
theorem d_R_weighEchoes_8 : decode b_R_weighEchoes 8 = .ok (.ifCond .eq 4, 3) := by decide +kernel
theorem d_R_weighEchoes_11 : decode b_R_weighEchoes 11 = .ok (.return_, 1) := by decide +kernel
theorem d_R_weighEchoes_12 : decode b_R_weighEchoes 12 = .ok (.iconst 0, 1) := by decide +kernel
theorem d_R_weighEchoes_13 : decode b_R_weighEchoes 13 = .ok (.istore_n 1, 1) := by decide +kernel
theorem d_R_weighEchoes_14 : decode b_R_weighEchoes 14 = .ok (.iload_n 1, 1) := by decide +kernel
theorem d_R_weighEchoes_15 : decode b_R_weighEchoes 15 = .ok (.sipush 500, 3) := by decide +kernel
theorem d_R_weighEchoes_18 : decode b_R_weighEchoes 18 = .ok (.if_icmp .ge 49, 3) := by decide +kernel
theorem d_R_weighEchoes_21 : decode b_R_weighEchoes 21 = .ok (.aload_n 0, 1) := by decide +kernel
theorem d_R_weighEchoes_22 : decode b_R_weighEchoes 22 = .ok (.getfield 20, 3) := by decide +kernel
theorem d_R_weighEchoes_25 : decode b_R_weighEchoes 25 = .ok (.iload_n 1, 1) := by decide +kernel
theorem d_R_weighEchoes_26 : decode b_R_weighEchoes 26 = .ok (.laload, 1) := by decide +kernel
theorem d_R_weighEchoes_27 : decode b_R_weighEchoes 27 = .ok (.lstore_n 2, 1) := by decide +kernel
theorem d_R_weighEchoes_28 : decode b_R_weighEchoes 28 = .ok (.aload_n 0, 1) := by decide +kernel
theorem d_R_weighEchoes_29 : decode b_R_weighEchoes 29 = .ok (.lload_n 2, 1) := by decide +kernel
theorem d_R_weighEchoes_30 : decode b_R_weighEchoes 30 = .ok (.invokestatic 88, 3) := by decide +kernel
theorem d_R_weighEchoes_33 : decode b_R_weighEchoes 33 = .ok (.lload_n 2, 1) := by decide +kernel
theorem d_R_weighEchoes_34 : decode b_R_weighEchoes 34 = .ok (.invokestatic 92, 3) := by decide +kernel
theorem d_R_weighEchoes_37 : decode b_R_weighEchoes 37 = .ok (.lload_n 2, 1) := by decide +kernel
theorem d_R_weighEchoes_38 : decode b_R_weighEchoes 38 = .ok (.invokestatic 95, 3) := by decide +kernel
theorem d_R_weighEchoes_41 : decode b_R_weighEchoes 41 = .ok (.invokevirtual 74, 3) := by decide +kernel
theorem d_R_weighEchoes_44 : decode b_R_weighEchoes 44 = .ok (.lstore 4, 2) := by decide +kernel
theorem d_R_weighEchoes_46 : decode b_R_weighEchoes 46 = .ok (.aload_n 0, 1) := by decide +kernel
theorem d_R_weighEchoes_47 : decode b_R_weighEchoes 47 = .ok (.getfield 24, 3) := by decide +kernel
theorem d_R_weighEchoes_50 : decode b_R_weighEchoes 50 = .ok (.iload_n 1, 1) := by decide +kernel
theorem d_R_weighEchoes_51 : decode b_R_weighEchoes 51 = .ok (.lload 4, 2) := by decide +kernel
theorem d_R_weighEchoes_53 : decode b_R_weighEchoes 53 = .ok (.lload_n 2, 1) := by decide +kernel
theorem d_R_weighEchoes_54 : decode b_R_weighEchoes 54 = .ok (.invokestatic 210, 3) := by decide +kernel
theorem d_R_weighEchoes_57 : decode b_R_weighEchoes 57 = .ok (.invokestatic 77, 3) := by decide +kernel
theorem d_R_weighEchoes_60 : decode b_R_weighEchoes 60 = .ok (.lastore, 1) := by decide +kernel
theorem d_R_weighEchoes_61 : decode b_R_weighEchoes 61 = .ok (.iinc 1 1, 3) := by decide +kernel
theorem d_R_weighEchoes_64 : decode b_R_weighEchoes 64 = .ok (.goto (-50), 3) := by decide +kernel
theorem d_R_weighEchoes_67 : decode b_R_weighEchoes 67 = .ok (.aload_n 0, 1) := by decide +kernel
theorem d_R_weighEchoes_68 : decode b_R_weighEchoes 68 = .ok (.iconst 1, 1) := by decide +kernel
theorem d_R_weighEchoes_69 : decode b_R_weighEchoes 69 = .ok (.putfield 63, 3) := by decide +kernel
theorem d_R_weighEchoes_72 : decode b_R_weighEchoes 72 = .ok (.return_, 1) := by decide +kernel
theorem d_R_countWithin_0 : decode b_R_countWithin 0 = .ok (.iconst 0, 1) := by decide +kernel
theorem d_R_countWithin_1 : decode b_R_countWithin 1 = .ok (.istore_n 3, 1) := by decide +kernel
theorem d_R_countWithin_2 : decode b_R_countWithin 2 = .ok (.iload_n 3, 1) := by decide +kernel
theorem d_R_countWithin_3 : decode b_R_countWithin 3 = .ok (.sipush 500, 3) := by decide +kernel
theorem d_R_countWithin_6 : decode b_R_countWithin 6 = .ok (.if_icmp .ge 23, 3) := by decide +kernel
theorem d_R_countWithin_9 : decode b_R_countWithin 9 = .ok (.aload_n 0, 1) := by decide +kernel
theorem d_R_countWithin_10 : decode b_R_countWithin 10 = .ok (.getfield 20, 3) := by decide +kernel
theorem d_R_countWithin_13 : decode b_R_countWithin 13 = .ok (.iload_n 3, 1) := by decide +kernel
theorem d_R_countWithin_14 : decode b_R_countWithin 14 = .ok (.laload, 1) := by decide +kernel
theorem d_R_countWithin_15 : decode b_R_countWithin 15 = .ok (.invokestatic 210, 3) := by decide +kernel
theorem d_R_countWithin_18 : decode b_R_countWithin 18 = .ok (.lload_n 1, 1) := by decide +kernel
theorem d_R_countWithin_19 : decode b_R_countWithin 19 = .ok (.lcmp, 1) := by decide +kernel
theorem d_R_countWithin_20 : decode b_R_countWithin 20 = .ok (.ifCond .gt 9, 3) := by decide +kernel
theorem d_R_countWithin_23 : decode b_R_countWithin 23 = .ok (.iinc 3 1, 3) := by decide +kernel
theorem d_R_countWithin_26 : decode b_R_countWithin 26 = .ok (.goto (-24), 3) := by decide +kernel
theorem d_R_countWithin_29 : decode b_R_countWithin 29 = .ok (.iload_n 3, 1) := by decide +kernel
theorem d_R_countWithin_30 : decode b_R_countWithin 30 = .ok (.ireturn, 1) := by decide +kernel
theorem d_R_loudnessBetween_0 : decode b_R_loudnessBetween 0 = .ok (.lconst 0, 1) := by decide +kernel
theorem d_R_loudnessBetween_1 : decode b_R_loudnessBetween 1 = .ok (.lstore_n 3, 1) := by decide +kernel
theorem d_R_loudnessBetween_2 : decode b_R_loudnessBetween 2 = .ok (.iconst 0, 1) := by decide +kernel
theorem d_R_loudnessBetween_3 : decode b_R_loudnessBetween 3 = .ok (.iload_n 1, 1) := by decide +kernel
theorem d_R_loudnessBetween_4 : decode b_R_loudnessBetween 4 = .ok (.invokestatic 133, 3) := by decide +kernel
theorem d_R_loudnessBetween_7 : decode b_R_loudnessBetween 7 = .ok (.istore 5, 2) := by decide +kernel
theorem d_R_loudnessBetween_9 : decode b_R_loudnessBetween 9 = .ok (.iload 5, 2) := by decide +kernel
theorem d_R_loudnessBetween_11 : decode b_R_loudnessBetween 11 = .ok (.iload_n 2, 1) := by decide +kernel
theorem d_R_loudnessBetween_12 : decode b_R_loudnessBetween 12 = .ok (.if_icmp .ge 27, 3) := by decide +kernel
theorem d_R_loudnessBetween_15 : decode b_R_loudnessBetween 15 = .ok (.iload 5, 2) := by decide +kernel
theorem d_R_loudnessBetween_17 : decode b_R_loudnessBetween 17 = .ok (.sipush 500, 3) := by decide +kernel
theorem d_R_loudnessBetween_20 : decode b_R_loudnessBetween 20 = .ok (.if_icmp .ge 19, 3) := by decide +kernel
theorem d_R_loudnessBetween_23 : decode b_R_loudnessBetween 23 = .ok (.lload_n 3, 1) := by decide +kernel
theorem d_R_loudnessBetween_24 : decode b_R_loudnessBetween 24 = .ok (.aload_n 0, 1) := by decide +kernel
theorem d_R_loudnessBetween_25 : decode b_R_loudnessBetween 25 = .ok (.getfield 24, 3) := by decide +kernel
theorem d_R_loudnessBetween_28 : decode b_R_loudnessBetween 28 = .ok (.iload 5, 2) := by decide +kernel
theorem d_R_loudnessBetween_30 : decode b_R_loudnessBetween 30 = .ok (.laload, 1) := by decide +kernel
theorem d_R_loudnessBetween_31 : decode b_R_loudnessBetween 31 = .ok (.ladd, 1) := by decide +kernel
theorem d_R_loudnessBetween_32 : decode b_R_loudnessBetween 32 = .ok (.lstore_n 3, 1) := by decide +kernel
theorem d_R_loudnessBetween_33 : decode b_R_loudnessBetween 33 = .ok (.iinc 5 1, 3) := by decide +kernel
theorem d_R_loudnessBetween_36 : decode b_R_loudnessBetween 36 = .ok (.goto (-27), 3) := by decide +kernel
theorem d_R_loudnessBetween_39 : decode b_R_loudnessBetween 39 = .ok (.lload_n 3, 1) := by decide +kernel
theorem d_R_loudnessBetween_40 : decode b_R_loudnessBetween 40 = .ok (.lreturn, 1) := by decide +kernel
theorem d_R_greatestCommonDivisor_0 : decode b_R_greatestCommonDivisor 0 = .ok (.lload_n 0, 1) := by decide +kernel
theorem d_R_greatestCommonDivisor_1 : decode b_R_greatestCommonDivisor 1 = .ok (.lstore 4, 2) := by decide +kernel
theorem d_R_greatestCommonDivisor_3 : decode b_R_greatestCommonDivisor 3 = .ok (.lload_n 2, 1) := by decide +kernel
theorem d_R_greatestCommonDivisor_4 : decode b_R_greatestCommonDivisor 4 = .ok (.lstore 6, 2) := by decide +kernel
theorem d_R_greatestCommonDivisor_6 : decode b_R_greatestCommonDivisor 6 = .ok (.iconst 0, 1) := by decide +kernel
theorem d_R_greatestCommonDivisor_7 : decode b_R_greatestCommonDivisor 7 = .ok (.istore 8, 2) := by decide +kernel
theorem d_R_greatestCommonDivisor_9 : decode b_R_greatestCommonDivisor 9 = .ok (.iload 8, 2) := by decide +kernel
theorem d_R_greatestCommonDivisor_11 : decode b_R_greatestCommonDivisor 11 = .ok (.sipush 1000, 3) := by decide +kernel
theorem d_R_greatestCommonDivisor_14 : decode b_R_greatestCommonDivisor 14 = .ok (.if_icmp .ge 31, 3) := by decide +kernel
theorem d_R_greatestCommonDivisor_17 : decode b_R_greatestCommonDivisor 17 = .ok (.lload 6, 2) := by decide +kernel
theorem d_R_greatestCommonDivisor_19 : decode b_R_greatestCommonDivisor 19 = .ok (.lconst 0, 1) := by decide +kernel
theorem d_R_greatestCommonDivisor_20 : decode b_R_greatestCommonDivisor 20 = .ok (.lcmp, 1) := by decide +kernel
theorem d_R_greatestCommonDivisor_21 : decode b_R_greatestCommonDivisor 21 = .ok (.ifCond .eq 24, 3) := by decide +kernel
theorem d_R_greatestCommonDivisor_24 : decode b_R_greatestCommonDivisor 24 = .ok (.lload 4, 2) := by decide +kernel
theorem d_R_greatestCommonDivisor_26 : decode b_R_greatestCommonDivisor 26 = .ok (.lload 6, 2) := by decide +kernel
theorem d_R_greatestCommonDivisor_28 : decode b_R_greatestCommonDivisor 28 = .ok (.lrem, 1) := by decide +kernel
theorem d_R_greatestCommonDivisor_29 : decode b_R_greatestCommonDivisor 29 = .ok (.lstore 9, 2) := by decide +kernel
theorem d_R_greatestCommonDivisor_31 : decode b_R_greatestCommonDivisor 31 = .ok (.lload 6, 2) := by decide +kernel
theorem d_R_greatestCommonDivisor_33 : decode b_R_greatestCommonDivisor 33 = .ok (.lstore 4, 2) := by decide +kernel
theorem d_R_greatestCommonDivisor_35 : decode b_R_greatestCommonDivisor 35 = .ok (.lload 9, 2) := by decide +kernel
theorem d_R_greatestCommonDivisor_37 : decode b_R_greatestCommonDivisor 37 = .ok (.lstore 6, 2) := by decide +kernel
theorem d_R_greatestCommonDivisor_39 : decode b_R_greatestCommonDivisor 39 = .ok (.iinc 8 1, 3) := by decide +kernel
theorem d_R_greatestCommonDivisor_42 : decode b_R_greatestCommonDivisor 42 = .ok (.goto (-33), 3) := by decide +kernel
theorem d_R_greatestCommonDivisor_45 : decode b_R_greatestCommonDivisor 45 = .ok (.lload 4, 2) := by decide +kernel
theorem d_R_greatestCommonDivisor_47 : decode b_R_greatestCommonDivisor 47 = .ok (.lreturn, 1) := by decide +kernel
end
section
/-! HELP: contracts of methods that only read, of methods that write a world; what a call of them gives. -/
/-- what holds of the tables in every state of ours: the classes' fields, the two array classes, the links of a nest -/
def am (D : va_G) (cI cL : ClassId) (U : State) : Prop := va_K D vwCl [(cI, .int), (cL, .long)] U ∧ va_Nw nwF U ∧ va_Nw nwW U ∧ va_Nw nwN U ∧ U.vm.findClass ("[" ++ FieldType.int.toString) = some cI ∧ U.vm.findClass ("[" ++ FieldType.long.toString) = some cL
theorem am.warm {D : va_G} {cI cL : ClassId} {s U : State} (hW : s.WarmedH U.vm) (h : am D cI cL s) : am D cI cL U :=
  ⟨va_K.moved hW.alike h.1, va_Nw.warmM hW h.2.1, va_Nw.warmM hW h.2.2.1, va_Nw.warmM hW h.2.2.2.1, by rw [hW.alike.findClass]; exact h.2.2.2.2.1, by rw [hW.alike.findClass]; exact h.2.2.2.2.2⟩
theorem am.same {D : va_G} {cI cL : ClassId} {u U : State} (hv : u.vm = U.vm) (h : am D cI cL u) : am D cI cL U :=
  ⟨va_K.moved (by rw [hv]; exact Vm.Alike.refl _) h.1, va_Nw.same rfl hv h.2.1, va_Nw.same rfl hv h.2.2.1, va_Nw.same rfl hv h.2.2.2.1, by rw [← hv]; exact h.2.2.2.2.1, by rw [← hv]; exact h.2.2.2.2.2⟩
abbrev rd_P (D : va_G) (cI cL : ClassId) (ws : va_W) (av : List Value) : Array Value → State → Prop := va_Pc av (fun U => va_P D vwCl ws U.heap ∧ am D cI cL U)
abbrev st_P (av : List Value) : Array Value → State → Prop := va_Pc av (fun _ => True)
abbrev wr_P (D : va_G) (cI cL : ClassId) (ws : va_W) (sz : Nat) (av : List Value) : Array Value → State → Prop := va_Pc av (fun U => U.heap.size = sz ∧ va_P D vwCl ws U.heap ∧ am D cI cL U ∧ va_D (fun _ => True) ws)
abbrev wr_B (D : va_G) (A : Nat → Prop) (w1 : va_W) : Unit → State → Prop := fun _ t => va_P D vwCl w1 t.heap ∧ va_D A w1
abbrev wr_v (D : va_G) (A : Nat → Prop) (w1 : va_W) : Array Value → State → Outcome → State → Prop := va_Qv (fun _ : Unit => True) (wr_B D A w1) A
abbrev wr_i (v : Int32) (D : va_G) (A : Nat → Prop) (w1 : va_W) : Array Value → State → Outcome → State → Prop := va_Qi (fun (r : Int32) (_ : Unit) => r = v) (wr_B D A w1) A
abbrev wr_l (v : Int64) (D : va_G) (A : Nat → Prop) (w1 : va_W) : Array Value → State → Outcome → State → Prop := va_Ql (fun (r : Int64) (_ : Unit) => r = v) (wr_B D A w1) A
section HLP
variable {p : Program} {l : Launch} {e : Env} {R : Room} {s : State} {m : MethodId} {args : Array Value} {below : List Frame} {meth : Method} {c : Code} {H H0 : Heap} {locs : List Loc} {cells slots : Nat} {Q : State → Prop}
variable {D : va_G} {cI cL : ClassId} {ws wc wr w1 : va_W} {av : List Value} {A0 : Nat → Prop}
theorem rd_bl : FrameBlind (rd_P D cI cL ws av) := fun a U g mk q => ⟨q.1, q.2.1, am.same (u := U) (U := U.calling g mk a) rfl q.2.2⟩
theorem rd_S (hM : am D cI cL s) (hP : va_P D vwCl ws H) : PreS s H (rd_P D cI cL ws av) av := ⟨rd_bl, fun U hU hW => ⟨rfl, by rw [hU]; exact hP, am.warm hW hM⟩⟩
theorem rd_V {C : String} {b : Nat} {ci : Nat} {q : vw_C} {fs : List Value} (hM : am D cI cL s) (hP : va_P D vwCl ws H) (hc : vwCl[ci]? = some q) (he : ws[0]? = some (b, .inr (ci, fs))) (hq : q.1 = C) : PreV s H C b (rd_P D cI cL ws (.ref b :: av)) av :=
  ⟨rd_bl, by subst hq; exact va_recv hM.1 hP hc he, fun U hU hW => ⟨rfl, by rw [hU]; exact hP, am.warm hW hM⟩⟩
theorem st_S : PreS s H (st_P av) av := ⟨fun _ _ _ _ q => q, fun _ _ _ => ⟨rfl, trivial⟩⟩
theorem wr_bl {sz : Nat} : FrameBlind (wr_P D cI cL ws sz av) := fun a U g mk q => ⟨q.1, q.2.1, q.2.2.1, am.same (u := U) (U := U.calling g mk a) rfl q.2.2.2.1, q.2.2.2.2⟩
theorem wr_S {A : Nat → Prop} (hM : am D cI cL s) (hP : va_P D vwCl ws H) (hD : va_D A ws) : PreS s H (wr_P D cI cL ws H.size av) av := ⟨wr_bl, fun U hU hW => ⟨rfl, by rw [hU], by rw [hU]; exact hP, am.warm hW hM, hD.weaken (fun _ _ _ _ => trivial)⟩⟩
theorem wr_V {A : Nat → Prop} {C : String} {b : Nat} {ci : Nat} {q : vw_C} {fs : List Value} (hM : am D cI cL s) (hP : va_P D vwCl ws H) (hD : va_D A ws) (hc : vwCl[ci]? = some q) (he : ws[0]? = some (b, .inr (ci, fs))) (hq : q.1 = C) : PreV s H C b (wr_P D cI cL ws H.size (.ref b :: av)) av :=
  ⟨wr_bl, by subst hq; exact va_recv hM.1 hP hc he, fun U hU hW => ⟨rfl, by rw [hU], by rw [hU]; exact hP, am.warm hW hM, hD.weaken (fun _ _ _ _ => trivial)⟩⟩
/-- a writer's call: its cells change, the rest stays -/
theorem wr_join {H1 : Heap} {t : State} (hP : va_P D vwCl ws H) (hD : va_D A0 ws) (hS : va_S A0 H0 H locs) (hA : ∀ q, H0.size ≤ q → A0 q) (isC isR : List Nat) (hC : isC.map (fun i => ws[i]?) = wc.map some) (hR : isR.map (fun i => ws[i]?) = wr.map some) (hn : va_nd isR = true) (hdis : ∀ i ∈ isR, i ∉ isC)
    (ht : t.heap = H1) (hk : ∀ q : Nat, q < H.size → ¬ va_A wc H.size q → H1[q]? = H[q]?) (hB : wr_B D (va_A wc H.size) w1 () t) : va_P D vwCl (wr ++ w1) H1 ∧ va_D A0 (wr ++ w1) := by
  obtain ⟨hP1, hD1⟩ := hB
  rw [ht] at hP1
  exact va_join hP hD isC isR hC hR hn hdis hk (va_free hD hS hA isC hC) hP1 hD1
variable {pc mc ms : Nat} {ls : Array Slot} {rest st0 : List Value} {a : Array Value}
theorem wr_cv (hP : va_P D vwCl ws H) (hD : va_D A0 ws) (hS : va_S A0 H0 H locs) (hA : ∀ q, H0.size ≤ q → A0 q) (isC isR : List Nat) (hC : isC.map (fun i => ws[i]?) = wc.map some) (hR : isR.map (fun i => ws[i]?) = wr.map some) (hn : va_nd isR = true) (hdis : ∀ i ∈ isR, i ∉ isC)
    (hr : va_Run p l e R s m args below meth c H locs cells slots mc ms (F0 m pc ls st0) rest (wr_v D (va_A wc H.size) w1 a) (va_A wc H.size))
    (kk : ∀ (H1 : Heap) (locs1 : List Loc), va_P D vwCl (wr ++ w1) H1 → va_D A0 (wr ++ w1) → va_S A0 H0 H1 locs1 → W p l e R s m args below meth c H1 locs1 (cells + mc) (slots + ms) Q (F0 m (pc + 3) ls rest)) : W p l e R s m args below meth c H locs cells slots Q (F0 m pc ls st0) := by
  have hF := va_free hD hS hA isC hC
  refine va_callv hr hS (fun q _ h => hF q h) hF (fun u t H1 locs1 ht hvm hw hB hz1 hk1 hS1 => ?_)
  obtain ⟨hP1, hD1⟩ := wr_join hP hD hS hA isC isR hC hR hn hdis ht hk1 hB
  exact kk H1 locs1 hP1 hD1 hS1
theorem wr_ci {v : Int32} (hP : va_P D vwCl ws H) (hD : va_D A0 ws) (hS : va_S A0 H0 H locs) (hA : ∀ q, H0.size ≤ q → A0 q) (isC isR : List Nat) (hC : isC.map (fun i => ws[i]?) = wc.map some) (hR : isR.map (fun i => ws[i]?) = wr.map some) (hn : va_nd isR = true) (hdis : ∀ i ∈ isR, i ∉ isC)
    (hr : va_Run p l e R s m args below meth c H locs cells slots mc ms (F0 m pc ls st0) rest (wr_i v D (va_A wc H.size) w1 a) (va_A wc H.size))
    (kk : ∀ (H1 : Heap) (locs1 : List Loc), va_P D vwCl (wr ++ w1) H1 → va_D A0 (wr ++ w1) → va_S A0 H0 H1 locs1 → W p l e R s m args below meth c H1 locs1 (cells + mc) (slots + ms) Q (F0 m (pc + 3) ls (.int v :: rest))) : W p l e R s m args below meth c H locs cells slots Q (F0 m pc ls st0) := by
  have hF := va_free hD hS hA isC hC
  refine va_calli hr hS (fun q _ h => hF q h) hF (fun r u t H1 locs1 ht hvm hw hB hz1 hk1 hS1 => ?_)
  obtain ⟨hP1, hD1⟩ := wr_join hP hD hS hA isC isR hC hR hn hdis ht hk1 hB
  subst hw
  exact kk H1 locs1 hP1 hD1 hS1
theorem wr_cl {v : Int64} (hP : va_P D vwCl ws H) (hD : va_D A0 ws) (hS : va_S A0 H0 H locs) (hA : ∀ q, H0.size ≤ q → A0 q) (isC isR : List Nat) (hC : isC.map (fun i => ws[i]?) = wc.map some) (hR : isR.map (fun i => ws[i]?) = wr.map some) (hn : va_nd isR = true) (hdis : ∀ i ∈ isR, i ∉ isC)
    (hr : va_Run p l e R s m args below meth c H locs cells slots mc ms (F0 m pc ls st0) rest (wr_l v D (va_A wc H.size) w1 a) (va_A wc H.size))
    (kk : ∀ (H1 : Heap) (locs1 : List Loc), va_P D vwCl (wr ++ w1) H1 → va_D A0 (wr ++ w1) → va_S A0 H0 H1 locs1 → W p l e R s m args below meth c H1 locs1 (cells + mc) (slots + ms) Q (F0 m (pc + 3) ls (.long v :: rest))) : W p l e R s m args below meth c H locs cells slots Q (F0 m pc ls st0) := by
  have hF := va_free hD hS hA isC hC
  refine va_calll hr hS (fun q _ h => hF q h) hF (fun r u t H1 locs1 ht hvm hw hB hz1 hk1 hS1 => ?_)
  obtain ⟨hP1, hD1⟩ := wr_join hP hD hS hA isC isR hC hR hn hdis ht hk1 hB
  subst hw
  exact kk H1 locs1 hP1 hD1 hS1
/-- a reader's call, whose answer is nothing -/
theorem rd_cv (hr : va_Run p l e R s m args below meth c H locs cells slots 0 0 (F0 m pc ls st0) rest (va_Sv (fun _ => True) a) (fun _ => False)) (kk : W p l e R s m args below meth c H locs cells slots Q (F0 m (pc + 3) ls rest)) : W p l e R s m args below meth c H locs cells slots Q (F0 m pc ls st0) := by
  intro T hT X
  obtain ⟨v, st₀, t, T', L, h0, X', hL, e1, e2, ⟨hv, -, hh⟩, st⟩ := hr T hT X
  cases hv
  obtain ⟨t2, a1, b1⟩ := kk T' (by rw [e1, hh, h0]) (Stand.forget X' (fun q h => (hL q h).elim))
  exact ⟨t2, st t2 a1, b1⟩
/-- a reader's call, whose answer is r -/
theorem rd_c {r : Value} (hr : va_Run p l e R s m args below meth c H locs cells slots 0 0 (F0 m pc ls st0) rest (k2_QcV r a) (fun _ => False)) (kk : W p l e R s m args below meth c H locs cells slots Q (F0 m (pc + 3) ls (r :: rest))) : W p l e R s m args below meth c H locs cells slots Q (F0 m pc ls st0) := by
  intro T hT X
  obtain ⟨v, st₀, t, T', L, h0, X', hL, e1, e2, ⟨hv, hh⟩, st⟩ := hr T hT X
  cases hv
  obtain ⟨t2, a1, b1⟩ := kk T' (by rw [e1, hh, h0]) (Stand.forget X' (fun q h => (hL q h).elim))
  exact ⟨t2, st t2 a1, b1⟩
end HLP
section TP
variable {p : Program} {l : Launch} {e : Env} {R : Room} {s : State} {m : MethodId} {args : Array Value} {below : List Frame} {meth : Method} {c : Code} {H : Heap} {locs : List Loc} {cells slots : Nat} {Q : State → Prop} {pc : Nat} {ls : Array Slot} {rest : List Value}
theorem tp_i {x : Int32} (y : Int32) (h : x = y) (k : W p l e R s m args below meth c H locs cells slots Q (F0 m pc ls (.int y :: rest))) : W p l e R s m args below meth c H locs cells slots Q (F0 m pc ls (.int x :: rest)) := h ▸ k
theorem tp_l {x : Int64} (y : Int64) (h : x = y) (k : W p l e R s m args below meth c H locs cells slots Q (F0 m pc ls (.long y :: rest))) : W p l e R s m args below meth c H locs cells slots Q (F0 m pc ls (.long x :: rest)) := h ▸ k
end TP
/-! numbers -/
theorem nu_cl (x : Int32) : ((x.toNatClampNeg : Nat) : Int) = if 0 ≤ x.toInt then x.toInt else 0 := by
  show ((x.toInt.toNat : Nat) : Int) = _
  split <;> omega
theorem nu_lt31 (x : Int32) : x.toNatClampNeg < 2147483648 := by
  have h := nu_cl x
  have h2 := Int32.toInt_lt x
  split at h <;> omega
/-- a counter against a bound -/
theorem nu_end {x : Int32} {i : Nat} (hi : i < 2147483648) (h : x ≤ nI i) : x.toNatClampNeg ≤ i := by
  have e := nu_cl x
  rw [Int32.le_iff_toInt_le, nI_toInt hi] at h
  split at e <;> omega
theorem nu_on {x : Int32} {i : Nat} (hi : i < 2147483648) (h : ¬ x ≤ nI i) : i < x.toNatClampNeg := by
  have e := nu_cl x
  rw [Int32.le_iff_toInt_le, nI_toInt hi] at h
  split at e <;> omega
theorem in_ge {x N : Int32} {n : Nat} (h1 : ¬ x < 0) (h2 : ¬ N ≤ x) (hN : N.toInt = n) : vp_in x n := by
  rw [vp_in_iff]
  rw [Int32.lt_iff_toInt_lt] at h1
  rw [Int32.le_iff_toInt_le] at h2
  have : (0 : Int32).toInt = 0 := rfl
  omega

/-! words -/
theorem gd_of {w : Cond} (h : w ∈ tb) : (w.onTables && w.keeps) = true ∨ ∃ ty, w = .arrayClass ty := good_of_word (tb_good w h)
section GI
variable {c0 : Cond} {own C : String} {idx maxL : Nat} {y : MethodName} {b : ByteArray} {ret : Option FieldType}
theorem gi_0 (h : Cond.code y b maxL ret ∈ tb) : GoodIn (c0 :: tb) (Cond.code y b maxL ret :: tb) := fun w hw => by
  rcases List.mem_cons.mp hw with rfl | hw
  · exact ⟨List.mem_cons_of_mem _ h, gd_of h⟩
  · exact ⟨List.mem_cons_of_mem _ hw, gd_of hw⟩
theorem gi_V (h : Cond.code y b maxL ret ∈ tb) (h1 : Cond.methodLink own idx y ∈ tb) (h2 : Cond.instanceMethod y ∈ tb) (h3 : Cond.selects C y y ∈ tb) (h4 : Cond.initialized C ∈ tb) : GoodIn (c0 :: tb) (wsV own idx C y (Cond.code y b maxL ret :: tb)) := fun w hw => by
  unfold wsV at hw
  rcases List.mem_append.mp hw with hw | hw
  · simp only [List.mem_cons, List.not_mem_nil, or_false] at hw
    rcases hw with rfl | rfl | rfl | rfl
    · exact ⟨List.mem_cons_of_mem _ h1, gd_of h1⟩
    · exact ⟨List.mem_cons_of_mem _ h2, gd_of h2⟩
    · exact ⟨List.mem_cons_of_mem _ h3, gd_of h3⟩
    · exact ⟨List.mem_cons_of_mem _ h4, gd_of h4⟩
  · exact gi_0 h w hw
theorem gi_S (h : Cond.code y b maxL ret ∈ tb) (h1 : Cond.methodLink own idx y ∈ tb) (h2 : Cond.static y ∈ tb) (h4 : Cond.initialized own ∈ tb) : GoodIn (c0 :: tb) (wsS own idx y (Cond.code y b maxL ret :: tb)) := fun w hw => by
  unfold wsS at hw
  rcases List.mem_append.mp hw with hw | hw
  · simp only [List.mem_cons, List.not_mem_nil, or_false] at hw
    rcases hw with rfl | rfl | rfl
    · exact ⟨List.mem_cons_of_mem _ h1, gd_of h1⟩
    · exact ⟨List.mem_cons_of_mem _ h2, gd_of h2⟩
    · exact ⟨List.mem_cons_of_mem _ h4, gd_of h4⟩
  · exact gi_0 h w hw
theorem ht_ {args : Array Value} {s : State} {w : Cond} (hts : ∀ w ∈ c0 :: tb, w.before args s = true) (h : w ∈ tb) : w.before args s = true := hts w (List.mem_cons_of_mem _ h)
theorem hi_ {ws : List Cond} (h : ∀ w ∈ ws, w ∈ tb) : ∀ w ∈ ws, w ∈ c0 :: tb := fun w hw => List.mem_cons_of_mem _ (h w hw)
end GI
end
section
/-! PURE: arrays of longs as functions; swaps; insertion; a heap. -/
theorem pu_lt {x y : Int64} : x < y ↔ x.toInt < y.toInt := Int64.lt_iff_toInt_lt
theorem pu_le {x y : Int64} : x ≤ y ↔ x.toInt ≤ y.toInt := Int64.le_iff_toInt_le
theorem pu_nlt {x y : Int64} (h : ¬ x < y) : y ≤ x := by rw [pu_lt] at h; rw [pu_le]; omega
theorem pu_nle {x y : Int64} (h : ¬ x ≤ y) : y < x := by rw [pu_le] at h; rw [pu_lt]; omega
theorem pu_tr {x y z : Int64} (h : x ≤ y) (h2 : y ≤ z) : x ≤ z := by rw [pu_le] at *; omega
theorem pu_ltle {x y : Int64} (h : x < y) : x ≤ y := by rw [pu_lt] at h; rw [pu_le]; omega
theorem pu_rf {x : Int64} : x ≤ x := by rw [pu_le]; omega
theorem pu_us {f : Nat → Int64} {k : Nat} {x : Int64} : vp_updL f k x k = x := if_pos rfl
theorem pu_un {f : Nat → Int64} {k j : Nat} {x : Int64} (h : j ≠ k) : vp_updL f k x j = f j := if_neg h
/-- f with the places a and b changed -/
def pu_sw (f : Nat → Int64) (a b : Nat) : Nat → Int64 := fun i => if i = a then f b else if i = b then f a else f i
theorem pu_swa {f : Nat → Int64} {a b : Nat} : pu_sw f a b a = f b := if_pos rfl
theorem pu_swb {f : Nat → Int64} {a b : Nat} : pu_sw f a b b = f a := by
  unfold pu_sw
  by_cases h : b = a
  · rw [if_pos h, h]
  · rw [if_neg h, if_pos rfl]
theorem pu_swo {f : Nat → Int64} {a b i : Nat} (h1 : i ≠ a) (h2 : i ≠ b) : pu_sw f a b i = f i := by
  unfold pu_sw
  rw [if_neg h1, if_neg h2]
/-- a step of a loop that moves a hole: the array with the key in the hole has two places changed -/
theorem pu_usw {r : Nat → Int64} {t0 q : Nat} {key : Int64} (h : q ≠ t0) : vp_updL (vp_updL r t0 (r q)) q key = pu_sw (vp_updL r t0 key) t0 q := by
  funext i
  by_cases h1 : i = q
  · subst h1
    rw [pu_us, pu_swb, pu_us]
  · rw [pu_un h1]
    by_cases h2 : i = t0
    · subst h2
      rw [pu_us, pu_swa, pu_un h]
    · rw [pu_un h2, pu_swo h2 h1, pu_un h2]
/-- g's first n places hold what f's do, each as often -/
def pu_pm (n : Nat) (f g : Nat → Int64) : Prop := ∃ σ τ : Nat → Nat, (∀ i, i < n → σ i < n ∧ τ i < n ∧ σ (τ i) = i ∧ τ (σ i) = i) ∧ ∀ i, i < n → g i = f (σ i)
theorem pu_prf {n : Nat} {f : Nat → Int64} : pu_pm n f f := ⟨id, id, fun i h => ⟨h, h, rfl, rfl⟩, fun _ _ => rfl⟩
theorem pu_ptr {n : Nat} {f g h : Nat → Int64} (h1 : pu_pm n f g) (h2 : pu_pm n g h) : pu_pm n f h := by
  obtain ⟨s1, t1, a1, b1⟩ := h1
  obtain ⟨s2, t2, a2, b2⟩ := h2
  refine ⟨fun i => s1 (s2 i), fun i => t2 (t1 i), fun i hi => ?_, fun i hi => ?_⟩
  · have x1 := a2 i hi
    have x2 := a1 i hi
    have x3 := a1 (s2 i) x1.1
    have x4 := a2 (t1 i) x2.2.1
    refine ⟨x3.1, x4.2.1, ?_, ?_⟩
    · show s1 (s2 (t2 (t1 i))) = i
      rw [x4.2.2.1, x2.2.2.1]
    · show t2 (t1 (s1 (s2 i))) = i
      rw [x3.2.2.2, x1.2.2.2]
  · rw [b2 i hi, b1 _ (a2 i hi).1]
theorem pu_psm {n : Nat} {f g : Nat → Int64} (h1 : pu_pm n f g) : pu_pm n g f := by
  obtain ⟨s1, t1, a1, b1⟩ := h1
  refine ⟨t1, s1, fun i hi => ⟨(a1 i hi).2.1, (a1 i hi).1, (a1 i hi).2.2.2, (a1 i hi).2.2.1⟩, fun i hi => ?_⟩
  rw [b1 _ (a1 i hi).2.1, (a1 i hi).2.2.1]
theorem pu_psw {n : Nat} {f : Nat → Int64} {a b : Nat} (ha : a < n) (hb : b < n) : pu_pm n f (pu_sw f a b) := by
  refine ⟨fun i => if i = a then b else if i = b then a else i, fun i => if i = a then b else if i = b then a else i, fun i hi => ?_, fun i hi => ?_⟩
  · have key : ∀ j, (fun i => if i = a then b else if i = b then a else i) ((fun i => if i = a then b else if i = b then a else i) j) = j := by
      intro j
      dsimp only
      by_cases h1 : j = a
      · rw [if_pos h1]
        by_cases h2 : b = a
        · rw [if_pos h2, h1, h2]
        · rw [if_neg h2, if_pos rfl, h1]
      · rw [if_neg h1]
        by_cases h2 : j = b
        · rw [if_pos h2, if_pos rfl, h2]
        · rw [if_neg h2, if_neg h1, if_neg h2]
    have lt : (fun i => if i = a then b else if i = b then a else i) i < n := by
      dsimp only
      split
      · exact hb
      · split
        · exact ha
        · exact hi
    exact ⟨lt, lt, key i, key i⟩
  · show pu_sw f a b i = _
    unfold pu_sw
    dsimp only
    by_cases h1 : i = a
    · rw [if_pos h1, if_pos h1]
    · rw [if_neg h1, if_neg h1]
      by_cases h2 : i = b
      · rw [if_pos h2, if_pos h2]
      · rw [if_neg h2, if_neg h2]
/-- what the first n places hold -/
def pu_hs (n : Nat) (f : Nat → Int64) (v : Int64) : Prop := ∃ i, i < n ∧ f i = v
/-- each once -/
def pu_hi (n : Nat) (f : Nat → Int64) : Prop := ∀ i j, i < n → j < n → f i = f j → i = j
theorem pu_phs {n : Nat} {f g : Nat → Int64} (h : pu_pm n f g) (v : Int64) : pu_hs n g v ↔ pu_hs n f v := by
  have one : ∀ {f g : Nat → Int64}, pu_pm n f g → pu_hs n g v → pu_hs n f v := by
    intro f g h q
    obtain ⟨s1, t1, a1, b1⟩ := h
    obtain ⟨i, hi, e⟩ := q
    exact ⟨s1 i, (a1 i hi).1, by rw [← b1 i hi]; exact e⟩
  exact ⟨one h, one (pu_psm h)⟩
theorem pu_phi {n : Nat} {f g : Nat → Int64} (h : pu_pm n f g) (hf : pu_hi n f) : pu_hi n g := by
  obtain ⟨s1, t1, a1, b1⟩ := h
  intro i j hi hj e
  rw [b1 i hi, b1 j hj] at e
  have := hf _ _ (a1 i hi).1 (a1 j hj).1 e
  rw [← (a1 i hi).2.2.2, ← (a1 j hj).2.2.2, this]
theorem pu_hsup {n : Nat} {f : Nat → Int64} {x v : Int64} : pu_hs (n + 1) (vp_updL f n x) v ↔ pu_hs n f v ∨ v = x := by
  constructor
  · rintro ⟨i, hi, e⟩
    by_cases h : i = n
    · subst h
      rw [pu_us] at e
      exact Or.inr e.symm
    · rw [pu_un h] at e
      exact Or.inl ⟨i, by omega, e⟩
  · rintro (⟨i, hi, e⟩ | e)
    · exact ⟨i, by omega, by rw [pu_un (by omega)]; exact e⟩
    · exact ⟨n, by omega, by rw [pu_us]; exact e.symm⟩
theorem pu_hiup {n : Nat} {f : Nat → Int64} {x : Int64} (h : pu_hi n f) (hx : ¬ pu_hs n f x) : pu_hi (n + 1) (vp_updL f n x) := by
  intro i j hi hj e
  by_cases h1 : i = n
  · by_cases h2 : j = n
    · rw [h1, h2]
    · rw [h1, pu_us, pu_un h2] at e
      exact absurd ⟨j, by omega, e.symm⟩ hx
  · by_cases h2 : j = n
    · rw [h2, pu_us, pu_un h1] at e
      exact absurd ⟨i, by omega, e⟩ hx
    · rw [pu_un h1, pu_un h2] at e
      exact h i j (by omega) (by omega) e
/-! insertion -/
/-- Axis.insert's loop: the key goes down from place 'at' -/
def pu_ins (key : Int64) : Nat → (Nat → Int64) → (Nat → Int64)
  | 0, r => vp_updL r 0 key
  | k + 1, r => if key < r k then pu_ins key k (vp_updL r (k + 1) (r k)) else vp_updL r (k + 1) key
/-- the first n places rise -/
def pu_srt (n : Nat) (f : Nat → Int64) : Prop := ∀ i j, i < j → j < n → f i ≤ f j
theorem pu_insok (key : Int64) (n : Nat) : ∀ (k : Nat) (r : Nat → Int64), k ≤ n →
    (∀ i j, i < j → j < n + 1 → i ≠ k → j ≠ k → vp_updL r k key i ≤ vp_updL r k key j) → (∀ j, k < j → j < n + 1 → key ≤ r j) →
    pu_pm (n + 1) (vp_updL r k key) (pu_ins key k r) ∧ pu_srt (n + 1) (pu_ins key k r) := by
  intro k
  induction k with
  | zero =>
    intro r hk h1 h2
    refine ⟨pu_prf, fun i j hij hj => ?_⟩
    show vp_updL r 0 key i ≤ vp_updL r 0 key j
    by_cases hi : i = 0
    · subst hi
      rw [pu_us, pu_un (by omega)]
      exact h2 j hij hj
    · exact h1 i j hij hj hi (by omega)
  | succ k ih =>
    intro r hk h1 h2
    unfold pu_ins
    by_cases hlt : key < r k
    · rw [if_pos hlt]
      have e := pu_usw (r := r) (t0 := k + 1) (q := k) (key := key) (by omega)
      have h3 : ∀ j, k < j → j < n + 1 → key ≤ vp_updL r (k + 1) (r k) j := by
        intro j hj hn
        by_cases hj2 : j = k + 1
        · subst hj2
          rw [pu_us]
          exact pu_ltle hlt
        · rw [pu_un hj2]
          exact h2 j (by omega) hn
      obtain ⟨p1, p2⟩ := ih (vp_updL r (k + 1) (r k)) (by omega) (by
        intro i j hij hj hi hjk
        rw [e]
        by_cases a : i = k + 1
        · subst a
          rw [pu_swa, pu_swo (by omega) (by omega), pu_un (by omega)]
          have := h1 k j (by omega) hj (by omega) (by omega)
          rw [pu_un (by omega), pu_un (by omega)] at this
          rw [pu_un (by omega)]
          exact this
        · by_cases b : j = k + 1
          · subst b
            rw [pu_swa, pu_swo (by omega) (by omega), pu_un (by omega), pu_un (by omega)]
            have := h1 i k (by omega) (by omega) (by omega) (by omega)
            rw [pu_un (by omega), pu_un (by omega)] at this
            exact this
          · rw [pu_swo a hi, pu_swo b hjk]
            exact h1 i j hij hj a b) h3
      refine ⟨pu_ptr ?_ p1, p2⟩
      rw [e]
      exact pu_psw (by omega) (by omega)
    · rw [if_neg hlt]
      refine ⟨pu_prf, fun i j hij hj => ?_⟩
      have hle := pu_nlt hlt
      have lo : ∀ i, i < k + 1 → r i ≤ key := by
        intro i hi
        by_cases a : i = k
        · rw [a]; exact hle
        · have := h1 i k (by omega) (by omega) (by omega) (by omega)
          rw [pu_un (by omega), pu_un (by omega)] at this
          exact pu_tr this hle
      by_cases a : i = k + 1
      · subst a
        rw [pu_us, pu_un (by omega)]
        exact h2 j hij hj
      · by_cases b : j = k + 1
        · subst b
          rw [pu_us, pu_un (by omega)]
          exact lo i (by omega)
        · exact h1 i j hij hj a b
/-- a key goes into a rising row of n -/
theorem pu_insin {key : Int64} {n : Nat} {r : Nat → Int64} (h : pu_srt n r) : pu_pm (n + 1) (vp_updL r n key) (pu_ins key n r) ∧ pu_srt (n + 1) (pu_ins key n r) :=
  pu_insok key n n r (Nat.le_refl n) (fun i j hij hj hi hjk => by rw [pu_un hi, pu_un hjk]; exact h i j hij (by omega)) (fun j h1 h2 => by omega)
/-! a heap: place i's parent is (i - 1) / 2 -/
def pu_hp (n : Nat) (f : Nat → Int64) : Prop := ∀ i, 0 < i → i < n → f ((i - 1) / 2) ≤ f i
/-- the root is the least -/
theorem pu_root {n : Nat} {f : Nat → Int64} (h : pu_hp n f) : ∀ i, i < n → f 0 ≤ f i := by
  intro i
  induction i using Nat.strongRecOn with
  | _ i ih =>
    intro hi
    by_cases h0 : i = 0
    · subst h0; exact pu_rf
    · exact pu_tr (ih ((i - 1) / 2) (by omega) (by omega)) (h i (by omega) hi)
/-- Frontier.add's loop: the key goes up from place 'at' -/
def pu_up (key : Int64) : Nat → Nat → (Nat → Int64) → (Nat → Int64)
  | 0, t, f => vp_updL f t key
  | d + 1, t, f => if 0 < t ∧ key < f ((t - 1) / 2) then pu_up key d ((t - 1) / 2) (vp_updL f t (f ((t - 1) / 2))) else vp_updL f t key
theorem pu_upok (key : Int64) (n : Nat) : ∀ (d t : Nat) (f : Nat → Int64), t < d → t < n →
    (∀ i, 0 < i → i < n → i ≠ t → vp_updL f t key ((i - 1) / 2) ≤ vp_updL f t key i) → (∀ i, 0 < i → i < n → (i - 1) / 2 = t → 0 < t → f ((t - 1) / 2) ≤ f i) →
    pu_pm n (vp_updL f t key) (pu_up key d t f) ∧ pu_hp n (pu_up key d t f) := by
  intro d
  induction d with
  | zero => intro t f h; omega
  | succ d ih =>
    intro t f hd hn h1 h2
    unfold pu_up
    by_cases c : 0 < t ∧ key < f ((t - 1) / 2)
    · rw [if_pos c]
      obtain ⟨c1, c2⟩ := c
      have e := pu_usw (r := f) (t0 := t) (q := (t - 1) / 2) (key := key) (by omega)
      obtain ⟨p1, p2⟩ := ih ((t - 1) / 2) (vp_updL f t (f ((t - 1) / 2))) (by omega) (by omega) (by
        intro i i0 hi hip
        rw [e]
        by_cases a : i = t
        · subst a
          rw [pu_swa, pu_swb, pu_us, pu_un (by omega)]
          exact pu_ltle c2
        · by_cases b : (i - 1) / 2 = t
          · rw [b, pu_swa, pu_swo a hip, pu_un (by omega), pu_un a]
            exact h2 i i0 hi b c1
          · by_cases b2 : (i - 1) / 2 = (t - 1) / 2
            · rw [b2, pu_swb, pu_swo a hip, pu_us, pu_un a]
              have := h1 i i0 hi a
              rw [b2, pu_un (by omega), pu_un a] at this
              exact pu_tr (pu_ltle c2) this
            · rw [pu_swo b b2, pu_swo a hip]
              exact h1 i i0 hi a) (by
        intro i i0 hi hip q0
        have g : f (((t - 1) / 2 - 1) / 2) ≤ f ((t - 1) / 2) := by
          have := h1 ((t - 1) / 2) q0 (by omega) (by omega)
          rw [pu_un (by omega), pu_un (by omega)] at this
          exact this
        rw [pu_un (by omega)]
        by_cases a : i = t
        · subst a
          rw [pu_us]
          exact g
        · rw [pu_un a]
          have := h1 i i0 hi a
          rw [hip, pu_un (by omega), pu_un a] at this
          exact pu_tr g this)
      refine ⟨pu_ptr ?_ p1, p2⟩
      rw [e]
      exact pu_psw hn (by omega)
    · rw [if_neg c]
      refine ⟨pu_prf, fun i i0 hi => ?_⟩
      by_cases a : i = t
      · subst a
        rw [pu_us, pu_un (by omega)]
        exact pu_nlt (fun q => c ⟨i0, q⟩)
      · exact h1 i i0 hi a
/-- a key goes into a heap of n -/
theorem pu_upin {key : Int64} {n d : Nat} {f : Nat → Int64} (hd : n < d) (h : pu_hp n f) : pu_pm (n + 1) (vp_updL f n key) (pu_up key d n f) ∧ pu_hp (n + 1) (pu_up key d n f) :=
  pu_upok key (n + 1) d n f hd (by omega) (fun i i0 hi hin => by rw [pu_un (by omega), pu_un hin]; exact h i i0 (by omega)) (fun i i0 hi hip h0 => by omega)
/-- the lesser child of place t, of n -/
def pu_lc (n : Nat) (f : Nat → Int64) (l : Nat) : Nat := if l + 1 < n ∧ f (l + 1) < f l then l + 1 else l
/-- Frontier.sinkFromTop's loop -/
def pu_dn (key : Int64) (n : Nat) : Nat → Nat → (Nat → Int64) → (Nat → Int64)
  | 0, t, f => vp_updL f t key
  | d + 1, t, f => if 2 * t + 1 < n then (if key ≤ f (pu_lc n f (2 * t + 1)) then vp_updL f t key else pu_dn key n d (pu_lc n f (2 * t + 1)) (vp_updL f t (f (pu_lc n f (2 * t + 1))))) else vp_updL f t key
theorem pu_lc_is {n : Nat} {f : Nat → Int64} {l : Nat} (h : l < n) : (pu_lc n f l = l ∨ (pu_lc n f l = l + 1 ∧ l + 1 < n)) ∧ pu_lc n f l < n ∧ f (pu_lc n f l) ≤ f l ∧ (l + 1 < n → f (pu_lc n f l) ≤ f (l + 1)) := by
  unfold pu_lc
  by_cases c : l + 1 < n ∧ f (l + 1) < f l
  · rw [if_pos c]
    exact ⟨Or.inr ⟨rfl, c.1⟩, c.1, pu_ltle c.2, fun _ => pu_rf⟩
  · rw [if_neg c]
    exact ⟨Or.inl rfl, h, pu_rf, fun q => pu_nlt (fun z => c ⟨q, z⟩)⟩
theorem pu_dnok (key : Int64) (n : Nat) : ∀ (d t : Nat) (f : Nat → Int64), n ≤ t + d → t < n →
    (∀ i, 0 < i → i < n → (i - 1) / 2 ≠ t → vp_updL f t key ((i - 1) / 2) ≤ vp_updL f t key i) → (∀ i, 0 < i → i < n → (i - 1) / 2 = t → 0 < t → f ((t - 1) / 2) ≤ f i) →
    pu_pm n (vp_updL f t key) (pu_dn key n d t f) ∧ pu_hp n (pu_dn key n d t f) := by
  intro d
  induction d with
  | zero => intro t f h; omega
  | succ d ih =>
    intro t f hd hn h1 h2
    unfold pu_dn
    by_cases c : 2 * t + 1 < n
    · rw [if_pos c]
      obtain ⟨w1, w2, w3, w4⟩ := pu_lc_is (f := f) c
      generalize pu_lc n f (2 * t + 1) = b at w1 w2 w3 w4 ⊢
      have bt : (b - 1) / 2 = t := by rcases w1 with h | ⟨h, -⟩ <;> omega
      have kid : ∀ i, 0 < i → i < n → (i - 1) / 2 = t → f b ≤ f i := by
        intro i i0 hi hp
        have : i = 2 * t + 1 ∨ i = 2 * t + 1 + 1 := by omega
        rcases this with h | h
        · rw [h]; exact w3
        · rw [h]; exact w4 (by omega)
      by_cases c2 : key ≤ f b
      · rw [if_pos c2]
        refine ⟨pu_prf, fun i i0 hi => ?_⟩
        by_cases a : (i - 1) / 2 = t
        · rw [a, pu_us, pu_un (by omega)]
          exact pu_tr c2 (kid i i0 hi a)
        · exact h1 i i0 hi a
      · rw [if_neg c2]
        have e := pu_usw (r := f) (t0 := t) (q := b) (key := key) (by omega)
        obtain ⟨p1, p2⟩ := ih b (vp_updL f t (f b)) (by omega) w2 (by
          intro i i0 hi hip
          rw [e]
          by_cases a : (i - 1) / 2 = t
          · rw [a, pu_swa, pu_un (by omega)]
            by_cases a2 : i = b
            · subst a2
              rw [pu_swb, pu_us]
              exact pu_ltle (pu_nle c2)
            · rw [pu_swo (by omega) a2, pu_un (by omega)]
              exact kid i i0 hi a
          · by_cases a2 : i = t
            · subst a2
              rw [pu_swa, pu_swo (by omega) hip, pu_un (by omega), pu_un (by omega)]
              exact h2 b (by omega) w2 bt i0
            · rw [pu_swo a hip, pu_swo a2 (by intro q; subst q; exact a bt)]
              exact h1 i i0 hi a) (by
          intro i i0 hi hip b0
          rw [bt, pu_us, pu_un (by omega)]
          have := h1 i i0 hi (by omega)
          rw [hip, pu_un (by omega), pu_un (by omega)] at this
          exact this)
        refine ⟨pu_ptr ?_ p1, p2⟩
        rw [e]
        exact pu_psw hn w2
    · rw [if_neg c]
      refine ⟨pu_prf, fun i i0 hi => ?_⟩
      exact h1 i i0 hi (by omega)
/-- the last of n + 1 goes to the root of a heap of n, and sinks -/
theorem pu_dnin {n d : Nat} {f : Nat → Int64} (h : pu_hp (n + 1) f) (hd : n ≤ d) (h0 : 0 < n) : pu_pm n (vp_updL f 0 (f n)) (pu_dn (f n) n d 0 f) ∧ pu_hp n (pu_dn (f n) n d 0 f) :=
  pu_dnok (f n) n d 0 f (by omega) h0 (fun i i0 hi hip => by rw [pu_un (by omega), pu_un (by omega)]; exact h i i0 (by omega)) (fun i i0 hi hip h0 => by omega)
/-- what is left behind the root -/
theorem pu_rest {n : Nat} {f : Nat → Int64} (h : pu_hi (n + 1) f) : pu_hi n (vp_updL f 0 (f n)) ∧ ∀ v, pu_hs n (vp_updL f 0 (f n)) v ↔ pu_hs (n + 1) f v ∧ v ≠ f 0 := by
  refine ⟨fun i j hi hj e => ?_, fun v => ⟨?_, ?_⟩⟩
  · by_cases a : i = 0
    · by_cases b : j = 0
      · omega
      · rw [a, pu_us, pu_un b] at e
        have := h n j (by omega) (by omega) e
        omega
    · by_cases b : j = 0
      · rw [b, pu_us, pu_un a] at e
        have := h i n (by omega) (by omega) e
        omega
      · rw [pu_un a, pu_un b] at e
        exact h i j (by omega) (by omega) e
  · rintro ⟨i, hi, e⟩
    by_cases a : i = 0
    · rw [a, pu_us] at e
      exact ⟨⟨n, by omega, e⟩, fun q => by rw [q] at e; have := h n 0 (by omega) (by omega) e; omega⟩
    · rw [pu_un a] at e
      exact ⟨⟨i, by omega, e⟩, fun q => by rw [q] at e; have := h i 0 (by omega) (by omega) e; omega⟩
  · rintro ⟨⟨i, hi, e⟩, hv⟩
    have i0 : i ≠ 0 := fun q => hv (by rw [← e, q])
    by_cases a : i = n
    · exact ⟨0, by omega, by rw [pu_us, ← a]; exact e⟩
    · exact ⟨i, by omega, by rw [pu_un i0]; exact e⟩
/-- an insertion, whole -/
theorem pu_insall {key : Int64} {n : Nat} {r : Nat → Int64} (h : pu_srt n r) (h1 : pu_hi n r) (hx : ¬ pu_hs n r key) :
    pu_srt (n + 1) (pu_ins key n r) ∧ pu_hi (n + 1) (pu_ins key n r) ∧ ∀ v, pu_hs (n + 1) (pu_ins key n r) v ↔ pu_hs n r v ∨ v = key := by
  obtain ⟨p1, p2⟩ := pu_insin (key := key) h
  exact ⟨p2, pu_phi p1 (pu_hiup h1 hx), fun v => (pu_phs p1 v).trans pu_hsup⟩
/-- a key into the heap, whole -/
theorem pu_upall {key : Int64} {n d : Nat} {f : Nat → Int64} (hd : n < d) (h : pu_hp n f) (h1 : pu_hi n f) (hx : ¬ pu_hs n f key) :
    pu_hp (n + 1) (pu_up key d n f) ∧ pu_hi (n + 1) (pu_up key d n f) ∧ ∀ v, pu_hs (n + 1) (pu_up key d n f) v ↔ pu_hs n f v ∨ v = key := by
  obtain ⟨p1, p2⟩ := pu_upin (key := key) hd h
  exact ⟨p2, pu_phi p1 (pu_hiup h1 hx), fun v => (pu_phs p1 v).trans pu_hsup⟩
/-- the least out of the heap, whole -/
theorem pu_dnall {n d : Nat} {f : Nat → Int64} (hd : n ≤ d) (h : pu_hp (n + 1) f) (h1 : pu_hi (n + 1) f) :
    pu_hp n (pu_dn (f n) n d 0 f) ∧ pu_hi n (pu_dn (f n) n d 0 f) ∧ ∀ v, pu_hs n (pu_dn (f n) n d 0 f) v ↔ pu_hs (n + 1) f v ∧ v ≠ f 0 := by
  obtain ⟨r1, r2⟩ := pu_rest h1
  by_cases h0 : 0 < n
  · obtain ⟨p1, p2⟩ := pu_dnin (d := d) h hd h0
    exact ⟨p2, pu_phi p1 r1, fun v => (pu_phs p1 v).trans (r2 v)⟩
  · have e : n = 0 := by omega
    subst e
    refine ⟨fun i i0 hi => by omega, fun i j hi hj => by omega, fun v => ⟨fun ⟨i, hi, _⟩ => by omega, fun ⟨⟨i, hi, e⟩, hv⟩ => ?_⟩⟩
    have : i = 0 := by omega
    rw [this] at e
    exact absurd e.symm hv
/-! the axis's order: numbers 0, -1, 1, -2, 2 .. go in one by one -/
def pu_ord (K : Int → Int64) (r : Nat → Int64) : Nat → (Nat → Int64)
  | 0 => pu_ins (K 0) 0 r
  | a + 1 => pu_ins (K ((a : Int) + 1)) (2 * a + 2) (pu_ins (K (-((a : Int) + 1))) (2 * a + 1) (pu_ord K r a))
theorem pu_ordok {K : Int → Int64} {M : Int} (inj : ∀ n m : Int, -M ≤ n → n ≤ M → -M ≤ m → m ≤ M → K n = K m → n = m) (hM : 0 ≤ M) (r : Nat → Int64) : ∀ a : Nat, (a : Int) ≤ M →
    pu_srt (2 * a + 1) (pu_ord K r a) ∧ pu_hi (2 * a + 1) (pu_ord K r a) ∧ ∀ v, pu_hs (2 * a + 1) (pu_ord K r a) v ↔ ∃ n : Int, -(a : Int) ≤ n ∧ n ≤ a ∧ v = K n := by
  intro a
  induction a with
  | zero =>
    intro ha
    obtain ⟨q1, q2, q3⟩ := pu_insall (key := K 0) (n := 0) (r := r) (fun i j _ h => by omega) (fun i j h => by omega) (fun ⟨i, h, _⟩ => by omega)
    refine ⟨q1, q2, fun v => (q3 v).trans ⟨?_, ?_⟩⟩
    · rintro (⟨i, h, _⟩ | h)
      · omega
      · exact ⟨0, by omega, by omega, h⟩
    · rintro ⟨n, h1, h2, h3⟩
      have : n = 0 := by omega
      subst this
      exact Or.inr h3
  | succ a ih =>
    intro ha
    have ha1 : (a : Int) + 1 ≤ M := by omega
    obtain ⟨s1, s2, s3⟩ := ih (by omega)
    have f1 : ¬ pu_hs (2 * a + 1) (pu_ord K r a) (K (-((a : Int) + 1))) := by
      intro q
      obtain ⟨n, h1, h2, h3⟩ := (s3 _).mp q
      have := inj _ _ (by omega) (by omega) (by omega) (by omega) h3
      omega
    obtain ⟨t1, t2, t3⟩ := pu_insall s1 s2 f1
    have f2 : ¬ pu_hs (2 * a + 1 + 1) (pu_ins (K (-((a : Int) + 1))) (2 * a + 1) (pu_ord K r a)) (K ((a : Int) + 1)) := by
      intro q
      rcases (t3 _).mp q with q | q
      · obtain ⟨n, h1, h2, h3⟩ := (s3 _).mp q
        have := inj _ _ (by omega) (by omega) (by omega) (by omega) h3
        omega
      · have := inj _ _ (by omega) (by omega) (by omega) (by omega) q
        omega
    obtain ⟨u1, u2, u3⟩ := pu_insall t1 t2 f2
    refine ⟨u1, u2, fun v => (u3 v).trans ⟨?_, ?_⟩⟩
    · rintro (h | h)
      · rcases (t3 v).mp h with h | h
        · obtain ⟨n, h1, h2, h3⟩ := (s3 _).mp h
          exact ⟨n, by omega, by omega, h3⟩
        · exact ⟨-((a : Int) + 1), by omega, by omega, h⟩
      · exact ⟨(a : Int) + 1, by omega, by omega, h⟩
    · rintro ⟨n, h1, h2, h3⟩
      by_cases c1 : n = (a : Int) + 1
      · subst c1; exact Or.inr h3
      · refine Or.inl ((t3 v).mpr ?_)
        by_cases c2 : n = -((a : Int) + 1)
        · subst c2; exact Or.inr h3
        · exact Or.inl ((s3 v).mpr ⟨n, by omega, by omega, h3⟩)
end
section
/-! PURE: the first k of N * N * N keys in their order, by a frontier: each node but the root waits for one that is less. -/
theorem pu_pig : ∀ (k : Nat) (g : Nat → Nat), (∀ t, t < k + 1 → g t < k) → ∃ a b, a < b ∧ b < k + 1 ∧ g a = g b := by
  intro k
  induction k with
  | zero => intro g h; exact absurd (h 0 (by omega)) (by omega)
  | succ k ih =>
    intro g h
    by_cases c : ∃ a, a < k + 1 ∧ g a = g (k + 1)
    · obtain ⟨a, h1, h2⟩ := c
      exact ⟨a, k + 1, h1, by omega, h2⟩
    · have ne : ∀ a, a < k + 1 → g a ≠ g (k + 1) := fun a h1 h2 => c ⟨a, h1, h2⟩
      have hx := h (k + 1) (by omega)
      obtain ⟨a, b, h1, h2, h3⟩ := ih (fun t => if g t = k then g (k + 1) else g t) (by
        intro t ht
        have n1 := ne t ht
        have n2 := h t (by omega)
        (try dsimp only)
        split <;> omega)
      refine ⟨a, b, h1, by omega, ?_⟩
      have n1 := ne a (by omega)
      have n2 := ne b h2
      (try dsimp only at h3)
      split at h3 <;> split at h3 <;> omega
/-- the node has come out in one of the first k steps -/
def pu_tk (K : Nat → Nat → Nat → Int64) (E : Nat → Int64) (k i j m : Nat) : Prop := ∃ t, t < k ∧ E t = K i j m
/-- the node's own one before it has come out, or it is the root -/
def pu_wt (K : Nat → Nat → Nat → Int64) (E : Nat → Int64) (k i j m : Nat) : Prop :=
  (m ≠ 0 ∧ pu_tk K E k i j (m - 1)) ∨ (m = 0 ∧ j ≠ 0 ∧ pu_tk K E k i (j - 1) 0) ∨ (m = 0 ∧ j = 0 ∧ i ≠ 0 ∧ pu_tk K E k (i - 1) 0 0) ∨ (m = 0 ∧ j = 0 ∧ i = 0)
/-- keys that rise from each node to those that wait for it, and tell the nodes apart -/
def pu_KK (N : Nat) (K : Nat → Nat → Nat → Int64) : Prop :=
  (∀ i j m a b c, i < N → j < N → m < N → a < N → b < N → c < N → K i j m = K a b c → i = a ∧ j = b ∧ m = c) ∧
  (∀ i j m, i < N → j < N → m + 1 < N → K i j m < K i j (m + 1)) ∧ (∀ i j, i < N → j + 1 < N → K i j 0 < K i (j + 1) 0) ∧ (∀ i, i + 1 < N → K i 0 0 < K (i + 1) 0 0)
/-- the first k are out, in their order; those that could be next are in the heap f of n -/
def pu_FI (N : Nat) (K : Nat → Nat → Nat → Int64) (E f : Nat → Int64) (k n : Nat) : Prop :=
  (∀ t, t < k → ∃ i j m, i < N ∧ j < N ∧ m < N ∧ E t = K i j m) ∧ (∀ a b, a < b → b < k → E a < E b) ∧
  (∀ i j m, i < N → j < N → m < N → ¬ pu_tk K E k i j m → ∀ t, t < k → E t < K i j m) ∧ pu_hp n f ∧ pu_hi n f ∧
  (∀ v, pu_hs n f v ↔ ∃ i j m, i < N ∧ j < N ∧ m < N ∧ ¬ pu_tk K E k i j m ∧ pu_wt K E k i j m ∧ v = K i j m) ∧ n ≤ 1 + 2 * k
/-- for every node that isn't out there is one in the frontier that isn't more -/
theorem pu_low {N : Nat} {K : Nat → Nat → Nat → Int64} {E : Nat → Int64} {k : Nat} (hK : pu_KK N K) : ∀ (d i j m : Nat), i + j + m ≤ d → i < N → j < N → m < N → ¬ pu_tk K E k i j m →
    ∃ a b c, a < N ∧ b < N ∧ c < N ∧ ¬ pu_tk K E k a b c ∧ pu_wt K E k a b c ∧ K a b c ≤ K i j m := by
  intro d
  induction d with
  | zero =>
    intro i j m hd hi hj hm ht
    exact ⟨i, j, m, hi, hj, hm, ht, Or.inr (Or.inr (Or.inr ⟨by omega, by omega, by omega⟩)), pu_rf⟩
  | succ d ih =>
    intro i j m hd hi hj hm ht
    by_cases w : pu_wt K E k i j m
    · exact ⟨i, j, m, hi, hj, hm, ht, w, pu_rf⟩
    · by_cases m0 : m = 0
      · by_cases j0 : j = 0
        · by_cases i0 : i = 0
          · exact absurd (Or.inr (Or.inr (Or.inr ⟨m0, j0, i0⟩))) w
          · subst m0; subst j0
            obtain ⟨a, b, c, h1, h2, h3, h4, h5, h6⟩ := ih (i - 1) 0 0 (by omega) (by omega) hj hm (fun q => w (Or.inr (Or.inr (Or.inl ⟨rfl, rfl, i0, q⟩))))
            refine ⟨a, b, c, h1, h2, h3, h4, h5, pu_tr h6 ?_⟩
            have := hK.2.2.2 (i - 1) (by omega)
            rw [Nat.sub_add_cancel (by omega)] at this
            exact pu_ltle this
        · subst m0
          obtain ⟨a, b, c, h1, h2, h3, h4, h5, h6⟩ := ih i (j - 1) 0 (by omega) hi (by omega) hm (fun q => w (Or.inr (Or.inl ⟨rfl, j0, q⟩)))
          refine ⟨a, b, c, h1, h2, h3, h4, h5, pu_tr h6 ?_⟩
          have := hK.2.2.1 i (j - 1) hi (by omega)
          rw [Nat.sub_add_cancel (by omega)] at this
          exact pu_ltle this
      · obtain ⟨a, b, c, h1, h2, h3, h4, h5, h6⟩ := ih i j (m - 1) (by omega) hi hj (by omega) (fun q => w (Or.inl ⟨m0, q⟩))
        refine ⟨a, b, c, h1, h2, h3, h4, h5, pu_tr h6 ?_⟩
        have := hK.2.1 i j (m - 1) hi hj (by omega)
        rw [Nat.sub_add_cancel (by omega)] at this
        exact pu_ltle this
/-- of N * N nodes (0, j, m) not all are out in fewer steps -/
theorem pu_left {N : Nat} {K : Nat → Nat → Nat → Int64} {E : Nat → Int64} {k : Nat} (hK : pu_KK N K) (h0 : 0 < N) (hk : k < N * N) : ∃ j m, j < N ∧ m < N ∧ ¬ pu_tk K E k 0 j m := by
  refine Classical.byContradiction fun hno => ?_
  have all : ∀ t, t < k + 1 → pu_tk K E k 0 (t / N) (t % N) := by
    intro t ht
    refine Classical.byContradiction fun q => hno ⟨t / N, t % N, ?_, Nat.mod_lt _ h0, q⟩
    exact Nat.div_lt_of_lt_mul (by omega)
  have ch : ∀ t, ∃ s, t < k + 1 → s < k ∧ E s = K 0 (t / N) (t % N) := by
    intro t
    by_cases ht : t < k + 1
    · obtain ⟨s, h1, h2⟩ := all t ht
      exact ⟨s, fun _ => ⟨h1, h2⟩⟩
    · exact ⟨0, fun q => absurd q ht⟩
  obtain ⟨a, b, h1, h2, h3⟩ := pu_pig k (fun t => Classical.choose (ch t)) (fun t ht => (Classical.choose_spec (ch t) ht).1)
  have ea := (Classical.choose_spec (ch a) (by omega)).2
  have eb := (Classical.choose_spec (ch b) h2).2
  (try dsimp only at h3)
  rw [h3, eb] at ea
  obtain ⟨-, q1, q2⟩ := hK.1 _ _ _ _ _ _ h0 (Nat.div_lt_of_lt_mul (by omega)) (Nat.mod_lt _ h0) h0 (Nat.div_lt_of_lt_mul (by omega)) (Nat.mod_lt _ h0) ea
  have x1 := Nat.div_add_mod a N
  have x2 := Nat.div_add_mod b N
  rw [q1, q2] at x2
  omega
/-- a step: the least comes out; what waited for it comes in -/
theorem pu_step {N : Nat} {K : Nat → Nat → Nat → Int64} {E f f' : Nat → Int64} {k n n' : Nat} (hK : pu_KK N K) (h : pu_FI N K E f k n) (i j m : Nat) (hi : i < N) (hj : j < N) (hm : m < N) (hn : 0 < n) (hv : f 0 = K i j m)
    (h1 : pu_hp n' f') (h2 : pu_hi n' f') (hn' : n' ≤ n + 2)
    (h3 : ∀ v, pu_hs n' f' v ↔ (pu_hs n f v ∧ v ≠ f 0) ∨ (m + 1 < N ∧ v = K i j (m + 1)) ∨ (m = 0 ∧ j + 1 < N ∧ v = K i (j + 1) 0) ∨ (m = 0 ∧ j = 0 ∧ i + 1 < N ∧ v = K (i + 1) 0 0)) :
    pu_FI N K (vp_updL E k (f 0)) f' (k + 1) n' := by
  obtain ⟨g1, g2, g3, g4, g5, g6, g7⟩ := h
  have tk : ∀ a b c, pu_tk K (vp_updL E k (f 0)) (k + 1) a b c ↔ pu_tk K E k a b c ∨ K a b c = K i j m := by
    intro a b c
    constructor
    · rintro ⟨t, ht, e⟩
      by_cases q : t = k
      · subst q
        rw [pu_us, hv] at e
        exact Or.inr e.symm
      · rw [pu_un q] at e
        exact Or.inl ⟨t, by omega, e⟩
    · rintro (⟨t, ht, e⟩ | e)
      · exact ⟨t, by omega, by rw [pu_un (by omega)]; exact e⟩
      · exact ⟨k, by omega, by rw [pu_us, hv, e]⟩
  obtain ⟨a0, b0, c0, x1, x2, x3, x4, x5, x6⟩ := (g6 (f 0)).mp ⟨0, hn, rfl⟩
  have me : a0 = i ∧ b0 = j ∧ c0 = m := hK.1 _ _ _ _ _ _ x1 x2 x3 hi hj hm (by rw [← x6, hv])
  obtain ⟨rfl, rfl, rfl⟩ := me
  have least : ∀ a b c, a < N → b < N → c < N → ¬ pu_tk K E k a b c → f 0 ≤ K a b c := by
    intro a b c ha hb hc ht
    obtain ⟨a', b', c', y1, y2, y3, y4, y5, y6⟩ := pu_low hK _ a b c (Nat.le_refl _) ha hb hc ht
    obtain ⟨r, z1, z2⟩ := (g6 (K a' b' c')).mpr ⟨a', b', c', y1, y2, y3, y4, y5, rfl⟩
    exact pu_tr (by rw [← z2]; exact pu_root g4 r z1) y6
  have up : ∀ a b c, a < N → b < N → c < N → ¬ pu_tk K (vp_updL E k (f 0)) (k + 1) a b c → f 0 < K a b c := by
    intro a b c ha hb hc ht
    rw [tk] at ht
    have q := least a b c ha hb hc (fun z => ht (Or.inl z))
    rw [hv] at q ⊢
    have ne : K a b c ≠ K a0 b0 c0 := fun z => ht (Or.inr z)
    rw [pu_le] at q
    rw [pu_lt]
    have : (K a b c).toInt ≠ (K a0 b0 c0).toInt := fun z => ne (Int64.toInt_inj.mp z)
    omega
  refine ⟨?_, ?_, ?_, h1, h2, ?_, by omega⟩
  · intro t ht
    by_cases q : t = k
    · subst q
      exact ⟨a0, b0, c0, hi, hj, hm, by rw [pu_us]; exact hv⟩
    · rw [pu_un q]
      exact g1 t (by omega)
  · intro a b hab hb
    by_cases q : b = k
    · subst q
      rw [pu_us, pu_un (by omega), hv]
      exact g3 a0 b0 c0 hi hj hm x4 a hab
    · rw [pu_un q, pu_un (by omega)]
      exact g2 a b hab (by omega)
  · intro a b c ha hb hc ht t htk
    by_cases q : t = k
    · subst q
      rw [pu_us]
      exact up a b c ha hb hc ht
    · rw [pu_un q]
      exact g3 a b c ha hb hc (fun z => ht ((tk a b c).mpr (Or.inl z))) t (by omega)
  · intro v
    have kid : ∀ a b c, a < N → b < N → c < N → K a0 b0 c0 < K a b c → ¬ pu_tk K (vp_updL E k (f 0)) (k + 1) a b c := by
      intro a b c ha hb hc hlt q
      rw [pu_lt] at hlt
      rcases (tk a b c).mp q with ⟨t, z1, z2⟩ | z
      · have := g3 a0 b0 c0 hi hj hm x4 t z1
        rw [pu_lt, z2] at this
        omega
      · rw [z] at hlt
        omega
    rw [h3 v]
    constructor
    · rintro (⟨y1, y2⟩ | ⟨y1, y2⟩ | ⟨y1, y2, y3⟩ | ⟨y1, y2, y3, y4⟩)
      · obtain ⟨a, b, c, z1, z2, z3, z4, z5, z6⟩ := (g6 v).mp y1
        refine ⟨a, b, c, z1, z2, z3, fun q => ?_, ?_, z6⟩
        · rcases (tk a b c).mp q with q | q
          · exact z4 q
          · exact y2 (by rw [z6, q, hv])
        · rcases z5 with ⟨u1, u2⟩ | ⟨u1, u2, u3⟩ | ⟨u1, u2, u3, u4⟩ | u
          · exact Or.inl ⟨u1, (tk _ _ _).mpr (Or.inl u2)⟩
          · exact Or.inr (Or.inl ⟨u1, u2, (tk _ _ _).mpr (Or.inl u3)⟩)
          · exact Or.inr (Or.inr (Or.inl ⟨u1, u2, u3, (tk _ _ _).mpr (Or.inl u4)⟩))
          · exact Or.inr (Or.inr (Or.inr u))
      · exact ⟨a0, b0, c0 + 1, hi, hj, y1, kid _ _ _ hi hj y1 (hK.2.1 _ _ _ hi hj y1), Or.inl ⟨by omega, (tk _ _ _).mpr (Or.inr rfl)⟩, y2⟩
      · subst y1
        exact ⟨a0, b0 + 1, 0, hi, y2, hm, kid _ _ _ hi y2 hm (hK.2.2.1 _ _ hi y2), Or.inr (Or.inl ⟨rfl, by omega, (tk _ _ _).mpr (Or.inr rfl)⟩), y3⟩
      · subst y1; subst y2
        exact ⟨a0 + 1, 0, 0, y3, hj, hm, kid _ _ _ y3 hj hm (hK.2.2.2 _ y3), Or.inr (Or.inr (Or.inl ⟨rfl, rfl, by omega, (tk _ _ _).mpr (Or.inr rfl)⟩)), y4⟩
    · rintro ⟨a, b, c, z1, z2, z3, z4, z5, z6⟩
      have n1 : ¬ pu_tk K E k a b c := fun q => z4 ((tk a b c).mpr (Or.inl q))
      have n2 : K a b c ≠ K a0 b0 c0 := fun q => z4 ((tk a b c).mpr (Or.inr q))
      by_cases w : pu_wt K E k a b c
      · exact Or.inl ⟨(g6 v).mpr ⟨a, b, c, z1, z2, z3, n1, w, z6⟩, by rw [z6, hv]; exact n2⟩
      · rcases z5 with ⟨u1, u2⟩ | ⟨u1, u2, u3⟩ | ⟨u1, u2, u3, u4⟩ | u
        · rcases (tk _ _ _).mp u2 with q | q
          · exact absurd (Or.inl ⟨u1, q⟩) w
          · obtain ⟨e1, e2, e3⟩ := hK.1 _ _ _ _ _ _ z1 z2 (by omega) hi hj hm q
            subst e1; subst e2
            have : c = c0 + 1 := by omega
            subst this
            exact Or.inr (Or.inl ⟨z3, z6⟩)
        · rcases (tk _ _ _).mp u3 with q | q
          · exact absurd (Or.inr (Or.inl ⟨u1, u2, q⟩)) w
          · obtain ⟨e1, e2, e3⟩ := hK.1 _ _ _ _ _ _ z1 (by omega) (by omega) hi hj hm q
            subst e1
            have : b = b0 + 1 := by omega
            subst this
            subst u1
            exact Or.inr (Or.inr (Or.inl ⟨e3.symm, z2, z6⟩))
        · rcases (tk _ _ _).mp u4 with q | q
          · exact absurd (Or.inr (Or.inr (Or.inl ⟨u1, u2, u3, q⟩))) w
          · obtain ⟨e1, e2, e3⟩ := hK.1 _ _ _ _ _ _ (by omega) (by omega) (by omega) hi hj hm q
            have : a = a0 + 1 := by omega
            subst this
            subst u1
            subst u2
            exact Or.inr (Or.inr (Or.inr ⟨e3.symm, e2.symm, z1, z6⟩))
        · exact absurd (Or.inr (Or.inr (Or.inr u))) w
/-- while steps are left the heap isn't empty, and its root is a node -/
theorem pu_more {N : Nat} {K : Nat → Nat → Nat → Int64} {E f : Nat → Int64} {k n : Nat} (hK : pu_KK N K) (h : pu_FI N K E f k n) (h0 : 0 < N) (hk : k < N * N) : 0 < n ∧ ∃ i j m, i < N ∧ j < N ∧ m < N ∧ f 0 = K i j m := by
  obtain ⟨j, m, hj, hm, ht⟩ := pu_left (E := E) hK h0 hk
  obtain ⟨a, b, c, y1, y2, y3, y4, y5, y6⟩ := pu_low hK _ 0 j m (Nat.le_refl _) h0 hj hm ht
  obtain ⟨r, z1, z2⟩ := (h.2.2.2.2.2.1 (K a b c)).mpr ⟨a, b, c, y1, y2, y3, y4, y5, rfl⟩
  have hn : 0 < n := by omega
  obtain ⟨a0, b0, c0, x1, x2, x3, -, -, x6⟩ := (h.2.2.2.2.2.1 (f 0)).mp ⟨0, hn, rfl⟩
  exact ⟨hn, a0, b0, c0, x1, x2, x3, x6⟩
/-- an axis's row: squares and raised numbers, in their order -/
def pu_ax (s n : Nat → Nat) : Prop := (∀ i, i < 81 → s i < 2147483648 ∧ n i < 81) ∧ (∀ i j, i < 81 → j < 81 → n i = n j → i = j) ∧ ∀ i, i + 1 < 81 → s i < s (i + 1) ∨ (s i = s (i + 1) ∧ n i < n (i + 1))
def pu_k3 (d a b c : Nat) : Nat := ((d * 128 + a) * 128 + b) * 128 + c
theorem pu_k3lt {d a b c : Nat} (hd : d < 6442450944) (ha : a < 81) (hb : b < 81) (hc : c < 81) : pu_k3 d a b c < 2 ^ 63 := by
  unfold pu_k3
  omega
theorem pu_KKof {sx sy sz nx ny nz : Nat → Nat} (hx : pu_ax sx nx) (hy : pu_ax sy ny) (hz : pu_ax sz nz) : pu_KK 81 (fun i j m => lN (pu_k3 (sx i + sy j + sz m) (nx i) (ny j) (nz m))) := by
  obtain ⟨x1, x2, x3⟩ := hx
  obtain ⟨y1, y2, y3⟩ := hy
  obtain ⟨z1, z2, z3⟩ := hz
  have bd : ∀ i j m, i < 81 → j < 81 → m < 81 → pu_k3 (sx i + sy j + sz m) (nx i) (ny j) (nz m) < 2 ^ 63 := by
    intro i j m hi hj hm
    have a1 := x1 i hi
    have a2 := y1 j hj
    have a3 := z1 m hm
    exact pu_k3lt (by omega) a1.2 a2.2 a3.2
  refine ⟨?_, ?_, ?_, ?_⟩
  · intro i j m a b c hi hj hm ha hb hc e
    have e2 := (pk_lEQ (bd i j m hi hj hm) (bd a b c ha hb hc)).mp e
    have a1 := (x1 i hi).2
    have a2 := (y1 j hj).2
    have a3 := (z1 m hm).2
    have b1 := (x1 a ha).2
    have b2 := (y1 b hb).2
    have b3 := (z1 c hc).2
    unfold pu_k3 at e2
    exact ⟨x2 i a hi ha (by omega), y2 j b hj hb (by omega), z2 m c hm hc (by omega)⟩
  · intro i j m hi hj hm
    refine (pk_lLT (bd _ _ _ hi hj (by omega)) (bd _ _ _ hi hj hm)).mpr ?_
    have a1 := (x1 i hi).2
    have a2 := (y1 j hj).2
    have a3 := (z1 m (by omega)).2
    have a4 := (z1 (m + 1) hm).2
    have a5 := z3 m hm
    unfold pu_k3
    omega
  · intro i j hi hj
    refine (pk_lLT (bd _ _ _ hi (by omega) (by omega)) (bd _ _ _ hi hj (by omega))).mpr ?_
    have a1 := (x1 i hi).2
    have a2 := (y1 j (by omega)).2
    have a3 := (z1 0 (by omega)).2
    have a4 := (y1 (j + 1) hj).2
    have a5 := y3 j hj
    unfold pu_k3
    omega
  · intro i hi
    refine (pk_lLT (bd _ _ _ (by omega) (by omega) (by omega)) (bd _ _ _ hi (by omega) (by omega))).mpr ?_
    have a1 := (x1 i (by omega)).2
    have a2 := (y1 0 (by omega)).2
    have a3 := (z1 0 (by omega)).2
    have a4 := (x1 (i + 1) hi).2
    have a5 := x3 i hi
    unfold pu_k3
    omega
end
section
theorem u_tn {n : Nat} (h : n < 2 ^ 64) : (UInt64.ofNat n).toNat = n := Nat.mod_eq_of_lt h
theorem g_and {a b c : Nat} (ha : a < 2 ^ 64) (hb : b < 2 ^ 64) (hc : a &&& b = c) : lN a &&& lN b = lN c := by
  subst hc
  have h : UInt64.ofNat a &&& UInt64.ofNat b = UInt64.ofNat (a &&& b) := UInt64.toNat_inj.mp (by rw [UInt64.toNat_and, u_tn ha, u_tn hb, u_tn (Nat.and_lt_two_pow a hb)])
  have h2 := congrArg UInt64.toInt64 h
  exact h2
theorem g_and1 {a : Nat} (ha : a < 2 ^ 64) : lN a &&& 1 = lN (a % 2) := g_and (b := 1) ha (by decide) (Nat.and_two_pow_sub_one_eq_mod a 1)
theorem g_mask {a s p : Nat} (hp : 2 ^ s = p) (hs : s < 64) (ha : a < 2 ^ 64) : lN a &&& lN (p - 1) = lN (a % p) := by
  subst hp
  have := Nat.pow_lt_pow_right (show 1 < 2 by decide) hs
  exact g_and ha (by omega) (Nat.and_two_pow_sub_one_eq_mod a s)
theorem g_or {k p a b : Nat} (hp : 2 ^ k = p) (ha : a < p) (h : b * p + a < 2 ^ 64) : lN (b * p) ||| lN a = lN (b * p + a) := by
  subst hp
  have h1 : b * 2 ^ k ||| a = b * 2 ^ k + a := by rw [← Nat.shiftLeft_eq, Nat.shiftLeft_add_eq_or_of_lt ha]
  have h3 : UInt64.ofNat (b * 2 ^ k) ||| UInt64.ofNat a = UInt64.ofNat (b * 2 ^ k + a) := UInt64.toNat_inj.mp (by rw [UInt64.toNat_or, u_tn (by omega), u_tn (by omega), u_tn h, h1])
  have h2 := congrArg UInt64.toInt64 h3
  exact h2
theorem g_or' {k p a b : Nat} (hp : 2 ^ k = p) (ha : a < p) (h : a + b * p < 2 ^ 64) : lN a ||| lN (b * p) = lN (a + b * p) := by
  rw [Int64.or_comm, g_or hp ha (by omega), Nat.add_comm]
theorem g_ushr {a k p : Nat} {y : UInt64} (hy : y = UInt64.ofNat k) (hk : k < 64) (hp : 2 ^ k = p) (ha : a < 2 ^ 64) : ((lN a).toUInt64 >>> y).toInt64 = lN (a / p) := by
  subst hy hp
  have h : UInt64.ofNat a >>> UInt64.ofNat k = UInt64.ofNat (a / 2 ^ k) := UInt64.toNat_inj.mp (by rw [UInt64.toNat_shiftRight, u_tn ha, u_tn (by omega), u_tn (Nat.lt_of_le_of_lt (Nat.div_le_self _ _) ha), Nat.mod_eq_of_lt hk, Nat.shiftRight_eq_div_pow])
  have h2 := congrArg UInt64.toInt64 h
  exact h2
theorem g_shl {a k p : Nat} {y : Int64} (hy : y.toBitVec.smod 64 = BitVec.ofNat 64 k) (hk : k < 64) (hp : 2 ^ k = p) (ha : a < 2 ^ 64) : lN a <<< y = lN (a * p) := by
  subst hp
  apply Int64.toBitVec_inj.mp
  rw [Int64.toBitVec_shiftLeft, hy]
  apply BitVec.eq_of_toNat_eq
  have hb : (lN a).toBitVec.toNat = a := Nat.mod_eq_of_lt ha
  have hk' : (BitVec.ofNat 64 k).toNat = k := Nat.mod_eq_of_lt (by omega)
  have h : ((lN a).toBitVec <<< BitVec.ofNat 64 k).toNat = (a * 2 ^ k) % 2 ^ 64 := by simp only [BitVec.shiftLeft_eq', BitVec.toNat_shiftLeft, hb, hk', Nat.shiftLeft_eq]
  exact h
/-! ===== lN to 2^62 under >> and >>> ===== -/
theorem pf_lI {a : Nat} (h : a < 2 ^ 63) : (lN a).toInt = (a : Int) := lg_ofNat_toInt h
theorem pf_shr {a d : Nat} {D : Int64} (hD : (D.toBitVec.smod 64).toNat = d) (h : a < 2 ^ 62) : lN a >>> D = lN (a / 2 ^ d) := by
  have hd : a / 2 ^ d ≤ a := Nat.div_le_self _ _
  apply Int64.toInt_inj.mp
  have e : (lN a >>> D).toInt = (lN a).toInt >>> d := by
    rw [← hD]
    exact BitVec.toInt_sshiftRight ..
  rw [e, Int.shiftRight_eq_div_pow, pf_lI (by omega), pf_lI (by omega)]
  rfl
end
section
def j_R_hitsAtZero (n : Int32) : Int32 := if n < 0 then (1 - n) / 2 else n / 2
set_option maxHeartbeats 4000000 in
set_option maxRecDepth 100000 in
theorem c_R_hitsAtZero (l : Launch) (n : Int32) : Met l y_R_hitsAtZero w_R_hitsAtZero ({ frames := 0, cells := 0, slots := 0, locals := 0 }) (st_P [.int n]) (k2_QcV (.int (j_R_hitsAtZero n))) 0 0 (fun _ => False) := by
  refine Met.ofW (cc := b_R_hitsAtZero) (maxL := 1) (ret := (some .int)) (by decide) rfl ?_
  intro p e s m args below meth c s₁ B hml hv
  obtain ⟨rfl, -⟩ := hv
  have hx := B.exec
  have hb := B.bytes
  have hr := B.returns
  have hts := atoms_spec (ws := w_R_hitsAtZero) B.pre
  have hown : s.vm.findClass "RoomEchoes" = some m.cls := findClass_of_methodNamed B.named
  have hlocks := B.notSynchronized
  have hl := lv_entry ([.int n]) (n := 1) (Nat.le_of_ble_eq_true rfl)
  rw [lg_entry_eq]
  generalize (lg_sl ([.int n]) ++ List.replicate (1 - (lg_sl ([.int n])).length) Slot.unset).toArray = ls at hl ⊢
  have hl : lv_has ls 1 [(0, .int n)] := hl
  refine lv_iload_n hx hb d_R_hitsAtZero_0 rfl (lv_at hl 0 rfl) ?_
  refine lv_if_lt (tgt := 10) hx hb d_R_hitsAtZero_1 (by decide) (fun c_1 => ?_) (fun c_1 => ?_)
  · skip
    refine lv_iconst (v := 1) hx hb d_R_hitsAtZero_10 (by decide) ?_
    refine lv_iload_n hx hb d_R_hitsAtZero_11 rfl (lv_at hl 0 rfl) ?_
    refine lv_isub hx hb d_R_hitsAtZero_12 ?_
    refine lv_iconst (v := 2) hx hb d_R_hitsAtZero_13 (by decide) ?_
    refine lv_idiv hx hb d_R_hitsAtZero_14 (by decide) ?_
    exact W.iret (v := (1 - n) / 2) hx hb hr (fun t ht hW => ⟨congrArg (fun z => Outcome.returned (some (Value.int z))) (by unfold j_R_hitsAtZero; rw [if_pos c_1]), ht⟩) (fun q h => by cases h) d_R_hitsAtZero_15
  · skip
    refine lv_iload_n hx hb d_R_hitsAtZero_4 rfl (lv_at hl 0 rfl) ?_
    refine lv_iconst (v := 2) hx hb d_R_hitsAtZero_5 (by decide) ?_
    refine lv_idiv hx hb d_R_hitsAtZero_6 (by decide) ?_
    refine lv_goto (tgt := 15) hx hb d_R_hitsAtZero_7 (by decide) ?_
    exact W.iret (v := n / 2) hx hb hr (fun t ht hW => ⟨congrArg (fun z => Outcome.returned (some (Value.int z))) (by unfold j_R_hitsAtZero; rw [if_neg c_1]), ht⟩) (fun q h => by cases h) d_R_hitsAtZero_15

def j_R_hitsAtSize (n : Int32) : Int32 := if n < 0 then (-n) / 2 else (n + 1) / 2
set_option maxHeartbeats 4000000 in
set_option maxRecDepth 100000 in
theorem c_R_hitsAtSize (l : Launch) (n : Int32) : Met l y_R_hitsAtSize w_R_hitsAtSize ({ frames := 0, cells := 0, slots := 0, locals := 0 }) (st_P [.int n]) (k2_QcV (.int (j_R_hitsAtSize n))) 0 0 (fun _ => False) := by
  refine Met.ofW (cc := b_R_hitsAtSize) (maxL := 1) (ret := (some .int)) (by decide) rfl ?_
  intro p e s m args below meth c s₁ B hml hv
  obtain ⟨rfl, -⟩ := hv
  have hx := B.exec
  have hb := B.bytes
  have hr := B.returns
  have hts := atoms_spec (ws := w_R_hitsAtSize) B.pre
  have hown : s.vm.findClass "RoomEchoes" = some m.cls := findClass_of_methodNamed B.named
  have hlocks := B.notSynchronized
  have hl := lv_entry ([.int n]) (n := 1) (Nat.le_of_ble_eq_true rfl)
  rw [lg_entry_eq]
  generalize (lg_sl ([.int n]) ++ List.replicate (1 - (lg_sl ([.int n])).length) Slot.unset).toArray = ls at hl ⊢
  have hl : lv_has ls 1 [(0, .int n)] := hl
  refine lv_iload_n hx hb d_R_hitsAtSize_0 rfl (lv_at hl 0 rfl) ?_
  refine lv_if_lt (tgt := 12) hx hb d_R_hitsAtSize_1 (by decide) (fun c_1 => ?_) (fun c_1 => ?_)
  · skip
    refine lv_iload_n hx hb d_R_hitsAtSize_12 rfl (lv_at hl 0 rfl) ?_
    refine lv_ineg hx hb d_R_hitsAtSize_13 ?_
    refine lv_iconst (v := 2) hx hb d_R_hitsAtSize_14 (by decide) ?_
    refine lv_idiv hx hb d_R_hitsAtSize_15 (by decide) ?_
    exact W.iret (v := (-n) / 2) hx hb hr (fun t ht hW => ⟨congrArg (fun z => Outcome.returned (some (Value.int z))) (by unfold j_R_hitsAtSize; rw [if_pos c_1]), ht⟩) (fun q h => by cases h) d_R_hitsAtSize_16
  · skip
    refine lv_iload_n hx hb d_R_hitsAtSize_4 rfl (lv_at hl 0 rfl) ?_
    refine lv_iconst (v := 1) hx hb d_R_hitsAtSize_5 (by decide) ?_
    refine lv_iadd hx hb d_R_hitsAtSize_6 ?_
    refine lv_iconst (v := 2) hx hb d_R_hitsAtSize_7 (by decide) ?_
    refine lv_idiv hx hb d_R_hitsAtSize_8 (by decide) ?_
    refine lv_goto (tgt := 16) hx hb d_R_hitsAtSize_9 (by decide) ?_
    exact W.iret (v := (n + 1) / 2) hx hb hr (fun t ht hW => ⟨congrArg (fun z => Outcome.returned (some (Value.int z))) (by unfold j_R_hitsAtSize; rw [if_neg c_1]), ht⟩) (fun q h => by cases h) d_R_hitsAtSize_16

def j_R_hitsOn (n : Int32) : Int32 := (j_R_hitsAtZero n) + (j_R_hitsAtSize n)
set_option maxHeartbeats 4000000 in
set_option maxRecDepth 100000 in
theorem c_R_hitsOn (l : Launch) (n : Int32) : Met l y_R_hitsOn w_R_hitsOn ({ frames := 1, cells := 0, slots := 0, locals := 20 }) (st_P [.int n]) (k2_QcV (.int (j_R_hitsOn n))) 0 0 (fun _ => False) := by
  refine Met.ofW (cc := b_R_hitsOn) (maxL := 1) (ret := (some .int)) (by decide) rfl ?_
  intro p e s m args below meth c s₁ B hml hv
  obtain ⟨rfl, -⟩ := hv
  have hx := B.exec
  have hb := B.bytes
  have hr := B.returns
  have hts := atoms_spec (ws := w_R_hitsOn) B.pre
  have hown : s.vm.findClass "RoomEchoes" = some m.cls := findClass_of_methodNamed B.named
  have hlocks := B.notSynchronized
  have hl := lv_entry ([.int n]) (n := 1) (Nat.le_of_ble_eq_true rfl)
  rw [lg_entry_eq]
  generalize (lg_sl ([.int n]) ++ List.replicate (1 - (lg_sl ([.int n])).length) Slot.unset).toArray = ls at hl ⊢
  have hl : lv_has ls 1 [(0, .int n)] := hl
  refine lv_iload_n hx hb d_R_hitsOn_0 rfl (lv_at hl 0 rfl) ?_
  refine rd_c (va_runS (As := [.int n]) (rest := []) ⟨hx, hb, hml, hown, hts⟩ (c_R_hitsAtZero l n) (cwS 1 hts (gi_S mw258 mw256 mw257 mw30) rfl rfl rfl (by decide +kernel) ⟨Nat.le_of_ble_eq_true rfl, Nat.le_of_ble_eq_true rfl⟩) st_S rfl rfl hl.1 rfl (lv_room (Nat.le_of_ble_eq_true rfl)) d_R_hitsOn_1 ⟨Nat.le_of_ble_eq_true rfl, Nat.le_of_ble_eq_true rfl⟩) ?_
  refine lv_iload_n hx hb d_R_hitsOn_4 rfl (lv_at hl 0 rfl) ?_
  refine rd_c (va_runS (As := [.int n]) (rest := [.int (j_R_hitsAtZero n)]) ⟨hx, hb, hml, hown, hts⟩ (c_R_hitsAtSize l n) (cwS 1 hts (gi_S mw265 mw263 mw264 mw30) rfl rfl rfl (by decide +kernel) ⟨Nat.le_of_ble_eq_true rfl, Nat.le_of_ble_eq_true rfl⟩) st_S rfl rfl hl.1 rfl (lv_room (Nat.le_of_ble_eq_true rfl)) d_R_hitsOn_5 ⟨Nat.le_of_ble_eq_true rfl, Nat.le_of_ble_eq_true rfl⟩) ?_
  refine lv_iadd hx hb d_R_hitsOn_8 ?_
  exact W.iret (v := (j_R_hitsAtZero n) + (j_R_hitsAtSize n)) hx hb hr (fun t ht hW => ⟨congrArg (fun z => Outcome.returned (some (Value.int z))) (by unfold j_R_hitsOn; rfl), ht⟩) (fun q h => by cases h) d_R_hitsOn_9

def j_R_hitsOf (a : Int32) (b : Int32) (c9 : Int32) : Int32 := ((j_R_hitsOn a) + (j_R_hitsOn b)) + (j_R_hitsOn c9)
set_option maxHeartbeats 4000000 in
set_option maxRecDepth 100000 in
theorem c_R_hitsOf (l : Launch) (a : Int32) (b : Int32) (c9 : Int32) : Met l y_R_hitsOf w_R_hitsOf ({ frames := 2, cells := 0, slots := 0, locals := 40 }) (st_P [.int a, .int b, .int c9]) (k2_QcV (.int (j_R_hitsOf a b c9))) 0 0 (fun _ => False) := by
  refine Met.ofW (cc := b_R_hitsOf) (maxL := 3) (ret := (some .int)) (by decide) rfl ?_
  intro p e s m args below meth c s₁ B hml hv
  obtain ⟨rfl, -⟩ := hv
  have hx := B.exec
  have hb := B.bytes
  have hr := B.returns
  have hts := atoms_spec (ws := w_R_hitsOf) B.pre
  have hown : s.vm.findClass "RoomEchoes" = some m.cls := findClass_of_methodNamed B.named
  have hlocks := B.notSynchronized
  have hl := lv_entry ([.int a, .int b, .int c9]) (n := 3) (Nat.le_of_ble_eq_true rfl)
  rw [lg_entry_eq]
  generalize (lg_sl ([.int a, .int b, .int c9]) ++ List.replicate (3 - (lg_sl ([.int a, .int b, .int c9])).length) Slot.unset).toArray = ls at hl ⊢
  have hl : lv_has ls 3 [(0, .int a), (1, .int b), (2, .int c9)] := hl
  refine lv_iload_n hx hb d_R_hitsOf_0 rfl (lv_at hl 0 rfl) ?_
  refine rd_c (va_runS (As := [.int a]) (rest := []) ⟨hx, hb, hml, hown, hts⟩ (c_R_hitsOn l a) (cwS 1 hts (gi_S mw274 mw272 mw273 mw30) rfl rfl rfl (by decide +kernel) ⟨Nat.le_of_ble_eq_true rfl, Nat.le_of_ble_eq_true rfl⟩) st_S rfl rfl hl.1 rfl (lv_room (Nat.le_of_ble_eq_true rfl)) d_R_hitsOf_1 ⟨Nat.le_of_ble_eq_true rfl, Nat.le_of_ble_eq_true rfl⟩) ?_
  refine lv_iload_n hx hb d_R_hitsOf_4 rfl (lv_at hl 1 rfl) ?_
  refine rd_c (va_runS (As := [.int b]) (rest := [.int (j_R_hitsOn a)]) ⟨hx, hb, hml, hown, hts⟩ (c_R_hitsOn l b) (cwS 1 hts (gi_S mw274 mw272 mw273 mw30) rfl rfl rfl (by decide +kernel) ⟨Nat.le_of_ble_eq_true rfl, Nat.le_of_ble_eq_true rfl⟩) st_S rfl rfl hl.1 rfl (lv_room (Nat.le_of_ble_eq_true rfl)) d_R_hitsOf_5 ⟨Nat.le_of_ble_eq_true rfl, Nat.le_of_ble_eq_true rfl⟩) ?_
  refine lv_iadd hx hb d_R_hitsOf_8 ?_
  refine lv_iload_n hx hb d_R_hitsOf_9 rfl (lv_at hl 2 rfl) ?_
  refine rd_c (va_runS (As := [.int c9]) (rest := [.int ((j_R_hitsOn a) + (j_R_hitsOn b))]) ⟨hx, hb, hml, hown, hts⟩ (c_R_hitsOn l c9) (cwS 1 hts (gi_S mw274 mw272 mw273 mw30) rfl rfl rfl (by decide +kernel) ⟨Nat.le_of_ble_eq_true rfl, Nat.le_of_ble_eq_true rfl⟩) st_S rfl rfl hl.1 rfl (lv_room (Nat.le_of_ble_eq_true rfl)) d_R_hitsOf_10 ⟨Nat.le_of_ble_eq_true rfl, Nat.le_of_ble_eq_true rfl⟩) ?_
  refine lv_iadd hx hb d_R_hitsOf_13 ?_
  exact W.iret (v := ((j_R_hitsOn a) + (j_R_hitsOn b)) + (j_R_hitsOn c9)) hx hb hr (fun t ht hW => ⟨congrArg (fun z => Outcome.returned (some (Value.int z))) (by unfold j_R_hitsOf; rfl), ht⟩) (fun q h => by cases h) d_R_hitsOf_14

def j_R_loudnessOf (g : Int64) (d : Int64) : Int64 := if (1 + d) ≤ 0 then 0 else g / (1 + d)
set_option maxHeartbeats 4000000 in
set_option maxRecDepth 100000 in
theorem c_R_loudnessOf (l : Launch) (g : Int64) (d : Int64) : Met l y_R_loudnessOf w_R_loudnessOf ({ frames := 0, cells := 0, slots := 0, locals := 0 }) (st_P [.long g, .long d]) (k2_QcV (.long (j_R_loudnessOf g d))) 0 0 (fun _ => False) := by
  refine Met.ofW (cc := b_R_loudnessOf) (maxL := 6) (ret := (some .long)) (by decide) rfl ?_
  intro p e s m args below meth c s₁ B hml hv
  obtain ⟨rfl, -⟩ := hv
  have hx := B.exec
  have hb := B.bytes
  have hr := B.returns
  have hts := atoms_spec (ws := w_R_loudnessOf) B.pre
  have hown : s.vm.findClass "RoomEchoes" = some m.cls := findClass_of_methodNamed B.named
  have hlocks := B.notSynchronized
  have hl := lv_entry ([.long g, .long d]) (n := 6) (Nat.le_of_ble_eq_true rfl)
  rw [lg_entry_eq]
  generalize (lg_sl ([.long g, .long d]) ++ List.replicate (6 - (lg_sl ([.long g, .long d])).length) Slot.unset).toArray = ls at hl ⊢
  have hl : lv_has ls 6 [(0, .long g), (2, .long d)] := hl
  refine lv_lconst (v := 1) hx hb d_R_loudnessOf_0 (by decide) ?_
  refine lv_lload_n hx hb d_R_loudnessOf_1 rfl (lv_at hl 1 rfl) ?_
  refine lv_ladd hx hb d_R_loudnessOf_2 ?_
  refine lv_lstore (lv' := [(4, .long (1 + d)), (0, .long g), (2, .long d)]) hx hb d_R_loudnessOf_3 hl (by decide) rfl (fun ls hl => ?_)
  refine lv_lload hx hb d_R_loudnessOf_5 (lv_at hl 0 rfl) ?_
  refine lv_lconst (v := 0) hx hb d_R_loudnessOf_7 (by decide) ?_
  refine W.lcmp hx hb d_R_loudnessOf_8 ?_
  refine lv_if_le (tgt := 19) hx hb d_R_loudnessOf_9 (by decide) (fun c_9 => ?_) (fun c_9 => ?_)
  · rw [lg_cmp_le] at c_9
    refine lv_lconst (v := 0) hx hb d_R_loudnessOf_19 (by decide) ?_
    exact W.lret (v := 0) hx hb hr (fun t ht hW => ⟨congrArg (fun z => Outcome.returned (some (Value.long z))) (by unfold j_R_loudnessOf; rw [if_pos c_9]), ht⟩) (fun q h => by cases h) d_R_loudnessOf_20
  · rw [lg_cmp_le] at c_9
    refine lv_lload_n hx hb d_R_loudnessOf_12 rfl (lv_at hl 1 rfl) ?_
    refine lv_lload hx hb d_R_loudnessOf_13 (lv_at hl 0 rfl) ?_
    refine lv_ldiv hx hb d_R_loudnessOf_15 (fun h9 => c_9 (by rw [h9]; decide)) ?_
    refine lv_goto (tgt := 20) hx hb d_R_loudnessOf_16 (by decide) ?_
    exact W.lret (v := g / (1 + d)) hx hb hr (fun t ht hW => ⟨congrArg (fun z => Outcome.returned (some (Value.long z))) (by unfold j_R_loudnessOf; rw [if_neg c_9]), ht⟩) (fun q h => by cases h) d_R_loudnessOf_20

def j_R_withNumberBelow (u : Int64) (n : Int32) : Int64 := (u <<< ((7 : Int32).toInt64 &&& 63)) ||| ((n + 40).toInt64)
set_option maxHeartbeats 4000000 in
set_option maxRecDepth 100000 in
theorem c_R_withNumberBelow (l : Launch) (u : Int64) (n : Int32) : Met l y_R_withNumberBelow w_R_withNumberBelow ({ frames := 0, cells := 0, slots := 0, locals := 0 }) (st_P [.long u, .int n]) (k2_QcV (.long (j_R_withNumberBelow u n))) 0 0 (fun _ => False) := by
  refine Met.ofW (cc := b_R_withNumberBelow) (maxL := 3) (ret := (some .long)) (by decide) rfl ?_
  intro p e s m args below meth c s₁ B hml hv
  obtain ⟨rfl, -⟩ := hv
  have hx := B.exec
  have hb := B.bytes
  have hr := B.returns
  have hts := atoms_spec (ws := w_R_withNumberBelow) B.pre
  have hown : s.vm.findClass "RoomEchoes" = some m.cls := findClass_of_methodNamed B.named
  have hlocks := B.notSynchronized
  have hl := lv_entry ([.long u, .int n]) (n := 3) (Nat.le_of_ble_eq_true rfl)
  rw [lg_entry_eq]
  generalize (lg_sl ([.long u, .int n]) ++ List.replicate (3 - (lg_sl ([.long u, .int n])).length) Slot.unset).toArray = ls at hl ⊢
  have hl : lv_has ls 3 [(0, .long u), (2, .int n)] := hl
  refine lv_lload_n hx hb d_R_withNumberBelow_0 rfl (lv_at hl 0 rfl) ?_
  refine lv_bipush (v := 7) hx hb d_R_withNumberBelow_1 (by decide) ?_
  refine lv_lshl hx hb d_R_withNumberBelow_3 rfl ?_
  refine lv_iload_n hx hb d_R_withNumberBelow_4 rfl (lv_at hl 1 rfl) ?_
  refine lv_bipush (v := 40) hx hb d_R_withNumberBelow_5 (by decide) ?_
  refine lv_iadd hx hb d_R_withNumberBelow_7 ?_
  refine lv_i2l hx hb d_R_withNumberBelow_8 rfl ?_
  refine lv_lor hx hb d_R_withNumberBelow_9 ?_
  exact W.lret (v := (u <<< ((7 : Int32).toInt64 &&& 63)) ||| ((n + 40).toInt64)) hx hb hr (fun t ht hW => ⟨congrArg (fun z => Outcome.returned (some (Value.long z))) (by unfold j_R_withNumberBelow; rfl), ht⟩) (fun q h => by cases h) d_R_withNumberBelow_10

def j_R_keyOf (d : Int64) (a : Int32) (b : Int32) (c9 : Int32) : Int64 := j_R_withNumberBelow (j_R_withNumberBelow (j_R_withNumberBelow d a) b) c9
set_option maxHeartbeats 4000000 in
set_option maxRecDepth 100000 in
theorem c_R_keyOf (l : Launch) (d : Int64) (a : Int32) (b : Int32) (c9 : Int32) : Met l y_R_keyOf w_R_keyOf ({ frames := 1, cells := 0, slots := 0, locals := 22 }) (st_P [.long d, .int a, .int b, .int c9]) (k2_QcV (.long (j_R_keyOf d a b c9))) 0 0 (fun _ => False) := by
  refine Met.ofW (cc := b_R_keyOf) (maxL := 7) (ret := (some .long)) (by decide) rfl ?_
  intro p e s m args below meth c s₁ B hml hv
  obtain ⟨rfl, -⟩ := hv
  have hx := B.exec
  have hb := B.bytes
  have hr := B.returns
  have hts := atoms_spec (ws := w_R_keyOf) B.pre
  have hown : s.vm.findClass "RoomEchoes" = some m.cls := findClass_of_methodNamed B.named
  have hlocks := B.notSynchronized
  have hl := lv_entry ([.long d, .int a, .int b, .int c9]) (n := 7) (Nat.le_of_ble_eq_true rfl)
  rw [lg_entry_eq]
  generalize (lg_sl ([.long d, .int a, .int b, .int c9]) ++ List.replicate (7 - (lg_sl ([.long d, .int a, .int b, .int c9])).length) Slot.unset).toArray = ls at hl ⊢
  have hl : lv_has ls 7 [(0, .long d), (2, .int a), (3, .int b), (4, .int c9)] := hl
  refine lv_lload_n hx hb d_R_keyOf_0 rfl (lv_at hl 0 rfl) ?_
  refine lv_iload_n hx hb d_R_keyOf_1 rfl (lv_at hl 1 rfl) ?_
  refine rd_c (va_runS (As := [.long d, .int a]) (rest := []) ⟨hx, hb, hml, hown, hts⟩ (c_R_withNumberBelow l d a) (cwS 2 hts (gi_S mw297 mw322 mw296 mw30) rfl rfl rfl (by decide +kernel) ⟨Nat.le_of_ble_eq_true rfl, Nat.le_of_ble_eq_true rfl⟩) st_S rfl rfl hl.1 rfl (lv_room (Nat.le_of_ble_eq_true rfl)) d_R_keyOf_2 ⟨Nat.le_of_ble_eq_true rfl, Nat.le_of_ble_eq_true rfl⟩) ?_
  refine lv_lstore (lv' := [(5, .long (j_R_withNumberBelow d a)), (0, .long d), (2, .int a), (3, .int b), (4, .int c9)]) hx hb d_R_keyOf_5 hl (by decide) rfl (fun ls hl => ?_)
  refine lv_lload hx hb d_R_keyOf_7 (lv_at hl 0 rfl) ?_
  refine lv_iload_n hx hb d_R_keyOf_9 rfl (lv_at hl 3 rfl) ?_
  refine rd_c (va_runS (As := [.long (j_R_withNumberBelow d a), .int b]) (rest := []) ⟨hx, hb, hml, hown, hts⟩ (c_R_withNumberBelow l (j_R_withNumberBelow d a) b) (cwS 2 hts (gi_S mw297 mw322 mw296 mw30) rfl rfl rfl (by decide +kernel) ⟨Nat.le_of_ble_eq_true rfl, Nat.le_of_ble_eq_true rfl⟩) st_S rfl rfl hl.1 rfl (lv_room (Nat.le_of_ble_eq_true rfl)) d_R_keyOf_10 ⟨Nat.le_of_ble_eq_true rfl, Nat.le_of_ble_eq_true rfl⟩) ?_
  refine lv_lstore (lv' := [(5, .long (j_R_withNumberBelow (j_R_withNumberBelow d a) b)), (0, .long d), (2, .int a), (3, .int b), (4, .int c9)]) hx hb d_R_keyOf_13 hl (by decide) rfl (fun ls hl => ?_)
  refine lv_lload hx hb d_R_keyOf_15 (lv_at hl 0 rfl) ?_
  refine lv_iload hx hb d_R_keyOf_17 (lv_at hl 4 rfl) ?_
  refine rd_c (va_runS (As := [.long (j_R_withNumberBelow (j_R_withNumberBelow d a) b), .int c9]) (rest := []) ⟨hx, hb, hml, hown, hts⟩ (c_R_withNumberBelow l (j_R_withNumberBelow (j_R_withNumberBelow d a) b) c9) (cwS 2 hts (gi_S mw297 mw322 mw296 mw30) rfl rfl rfl (by decide +kernel) ⟨Nat.le_of_ble_eq_true rfl, Nat.le_of_ble_eq_true rfl⟩) st_S rfl rfl hl.1 rfl (lv_room (Nat.le_of_ble_eq_true rfl)) d_R_keyOf_19 ⟨Nat.le_of_ble_eq_true rfl, Nat.le_of_ble_eq_true rfl⟩) ?_
  exact W.lret (v := j_R_withNumberBelow (j_R_withNumberBelow (j_R_withNumberBelow d a) b) c9) hx hb hr (fun t ht hW => ⟨congrArg (fun z => Outcome.returned (some (Value.long z))) (by unfold j_R_keyOf; rfl), ht⟩) (fun q h => by cases h) d_R_keyOf_22

def j_R_lowestNumberIn (k : Int64) : Int32 := ((k &&& 127).toInt32) - 40
set_option maxHeartbeats 4000000 in
set_option maxRecDepth 100000 in
theorem c_R_lowestNumberIn (l : Launch) (k : Int64) : Met l y_R_lowestNumberIn w_R_lowestNumberIn ({ frames := 0, cells := 0, slots := 0, locals := 0 }) (st_P [.long k]) (k2_QcV (.int (j_R_lowestNumberIn k))) 0 0 (fun _ => False) := by
  refine Met.ofW (cc := b_R_lowestNumberIn) (maxL := 2) (ret := (some .int)) (by decide) rfl ?_
  intro p e s m args below meth c s₁ B hml hv
  obtain ⟨rfl, -⟩ := hv
  have hx := B.exec
  have hb := B.bytes
  have hr := B.returns
  have hts := atoms_spec (ws := w_R_lowestNumberIn) B.pre
  have hown : s.vm.findClass "RoomEchoes" = some m.cls := findClass_of_methodNamed B.named
  have hlocks := B.notSynchronized
  have hl := lv_entry ([.long k]) (n := 2) (Nat.le_of_ble_eq_true rfl)
  rw [lg_entry_eq]
  generalize (lg_sl ([.long k]) ++ List.replicate (2 - (lg_sl ([.long k])).length) Slot.unset).toArray = ls at hl ⊢
  have hl : lv_has ls 2 [(0, .long k)] := hl
  refine lv_lload_n hx hb d_R_lowestNumberIn_0 rfl (lv_at hl 0 rfl) ?_
  refine lv_ldc2 (v := 127) hx hb hown (ht_ hts mw305) d_R_lowestNumberIn_1 ?_
  refine lv_land hx hb d_R_lowestNumberIn_4 ?_
  refine lv_l2i hx hb d_R_lowestNumberIn_5 rfl ?_
  refine lv_bipush (v := 40) hx hb d_R_lowestNumberIn_6 (by decide) ?_
  refine lv_isub hx hb d_R_lowestNumberIn_8 ?_
  exact W.iret (v := ((k &&& 127).toInt32) - 40) hx hb hr (fun t ht hW => ⟨congrArg (fun z => Outcome.returned (some (Value.int z))) (by unfold j_R_lowestNumberIn; rfl), ht⟩) (fun q h => by cases h) d_R_lowestNumberIn_9

def j_R_distanceIn (k : Int64) : Int64 := k >>> ((21 : Int32).toInt64 &&& 63)
set_option maxHeartbeats 4000000 in
set_option maxRecDepth 100000 in
theorem c_R_distanceIn (l : Launch) (k : Int64) : Met l y_R_distanceIn w_R_distanceIn ({ frames := 0, cells := 0, slots := 0, locals := 0 }) (st_P [.long k]) (k2_QcV (.long (j_R_distanceIn k))) 0 0 (fun _ => False) := by
  refine Met.ofW (cc := b_R_distanceIn) (maxL := 2) (ret := (some .long)) (by decide) rfl ?_
  intro p e s m args below meth c s₁ B hml hv
  obtain ⟨rfl, -⟩ := hv
  have hx := B.exec
  have hb := B.bytes
  have hr := B.returns
  have hts := atoms_spec (ws := w_R_distanceIn) B.pre
  have hown : s.vm.findClass "RoomEchoes" = some m.cls := findClass_of_methodNamed B.named
  have hlocks := B.notSynchronized
  have hl := lv_entry ([.long k]) (n := 2) (Nat.le_of_ble_eq_true rfl)
  rw [lg_entry_eq]
  generalize (lg_sl ([.long k]) ++ List.replicate (2 - (lg_sl ([.long k])).length) Slot.unset).toArray = ls at hl ⊢
  have hl : lv_has ls 2 [(0, .long k)] := hl
  refine lv_lload_n hx hb d_R_distanceIn_0 rfl (lv_at hl 0 rfl) ?_
  refine lv_bipush (v := 21) hx hb d_R_distanceIn_1 (by decide) ?_
  refine lv_lshr hx hb d_R_distanceIn_3 rfl ?_
  exact W.lret (v := k >>> ((21 : Int32).toInt64 &&& 63)) hx hb hr (fun t ht hW => ⟨congrArg (fun z => Outcome.returned (some (Value.long z))) (by unfold j_R_distanceIn; rfl), ht⟩) (fun q h => by cases h) d_R_distanceIn_4

def j_R_firstNumberIn (k : Int64) : Int32 := j_R_lowestNumberIn (k >>> ((14 : Int32).toInt64 &&& 63))
set_option maxHeartbeats 4000000 in
set_option maxRecDepth 100000 in
theorem c_R_firstNumberIn (l : Launch) (k : Int64) : Met l y_R_firstNumberIn w_R_firstNumberIn ({ frames := 1, cells := 0, slots := 0, locals := 21 }) (st_P [.long k]) (k2_QcV (.int (j_R_firstNumberIn k))) 0 0 (fun _ => False) := by
  refine Met.ofW (cc := b_R_firstNumberIn) (maxL := 2) (ret := (some .int)) (by decide) rfl ?_
  intro p e s m args below meth c s₁ B hml hv
  obtain ⟨rfl, -⟩ := hv
  have hx := B.exec
  have hb := B.bytes
  have hr := B.returns
  have hts := atoms_spec (ws := w_R_firstNumberIn) B.pre
  have hown : s.vm.findClass "RoomEchoes" = some m.cls := findClass_of_methodNamed B.named
  have hlocks := B.notSynchronized
  have hl := lv_entry ([.long k]) (n := 2) (Nat.le_of_ble_eq_true rfl)
  rw [lg_entry_eq]
  generalize (lg_sl ([.long k]) ++ List.replicate (2 - (lg_sl ([.long k])).length) Slot.unset).toArray = ls at hl ⊢
  have hl : lv_has ls 2 [(0, .long k)] := hl
  refine lv_lload_n hx hb d_R_firstNumberIn_0 rfl (lv_at hl 0 rfl) ?_
  refine lv_bipush (v := 14) hx hb d_R_firstNumberIn_1 (by decide) ?_
  refine lv_lshr hx hb d_R_firstNumberIn_3 rfl ?_
  refine rd_c (va_runS (As := [.long (k >>> ((14 : Int32).toInt64 &&& 63))]) (rest := []) ⟨hx, hb, hml, hown, hts⟩ (c_R_lowestNumberIn l (k >>> ((14 : Int32).toInt64 &&& 63))) (cwS 1 hts (gi_S mw304 mw346 mw303 mw30) rfl rfl rfl (by decide +kernel) ⟨Nat.le_of_ble_eq_true rfl, Nat.le_of_ble_eq_true rfl⟩) st_S rfl rfl hl.1 rfl (lv_room (Nat.le_of_ble_eq_true rfl)) d_R_firstNumberIn_4 ⟨Nat.le_of_ble_eq_true rfl, Nat.le_of_ble_eq_true rfl⟩) ?_
  exact W.iret (v := j_R_lowestNumberIn (k >>> ((14 : Int32).toInt64 &&& 63))) hx hb hr (fun t ht hW => ⟨congrArg (fun z => Outcome.returned (some (Value.int z))) (by unfold j_R_firstNumberIn; rfl), ht⟩) (fun q h => by cases h) d_R_firstNumberIn_7

def j_R_secondNumberIn (k : Int64) : Int32 := j_R_lowestNumberIn (k >>> ((7 : Int32).toInt64 &&& 63))
set_option maxHeartbeats 4000000 in
set_option maxRecDepth 100000 in
theorem c_R_secondNumberIn (l : Launch) (k : Int64) : Met l y_R_secondNumberIn w_R_secondNumberIn ({ frames := 1, cells := 0, slots := 0, locals := 21 }) (st_P [.long k]) (k2_QcV (.int (j_R_secondNumberIn k))) 0 0 (fun _ => False) := by
  refine Met.ofW (cc := b_R_secondNumberIn) (maxL := 2) (ret := (some .int)) (by decide) rfl ?_
  intro p e s m args below meth c s₁ B hml hv
  obtain ⟨rfl, -⟩ := hv
  have hx := B.exec
  have hb := B.bytes
  have hr := B.returns
  have hts := atoms_spec (ws := w_R_secondNumberIn) B.pre
  have hown : s.vm.findClass "RoomEchoes" = some m.cls := findClass_of_methodNamed B.named
  have hlocks := B.notSynchronized
  have hl := lv_entry ([.long k]) (n := 2) (Nat.le_of_ble_eq_true rfl)
  rw [lg_entry_eq]
  generalize (lg_sl ([.long k]) ++ List.replicate (2 - (lg_sl ([.long k])).length) Slot.unset).toArray = ls at hl ⊢
  have hl : lv_has ls 2 [(0, .long k)] := hl
  refine lv_lload_n hx hb d_R_secondNumberIn_0 rfl (lv_at hl 0 rfl) ?_
  refine lv_bipush (v := 7) hx hb d_R_secondNumberIn_1 (by decide) ?_
  refine lv_lshr hx hb d_R_secondNumberIn_3 rfl ?_
  refine rd_c (va_runS (As := [.long (k >>> ((7 : Int32).toInt64 &&& 63))]) (rest := []) ⟨hx, hb, hml, hown, hts⟩ (c_R_lowestNumberIn l (k >>> ((7 : Int32).toInt64 &&& 63))) (cwS 1 hts (gi_S mw304 mw346 mw303 mw30) rfl rfl rfl (by decide +kernel) ⟨Nat.le_of_ble_eq_true rfl, Nat.le_of_ble_eq_true rfl⟩) st_S rfl rfl hl.1 rfl (lv_room (Nat.le_of_ble_eq_true rfl)) d_R_secondNumberIn_4 ⟨Nat.le_of_ble_eq_true rfl, Nat.le_of_ble_eq_true rfl⟩) ?_
  exact W.iret (v := j_R_lowestNumberIn (k >>> ((7 : Int32).toInt64 &&& 63))) hx hb hr (fun t ht hW => ⟨congrArg (fun z => Outcome.returned (some (Value.int z))) (by unfold j_R_secondNumberIn; rfl), ht⟩) (fun q h => by cases h) d_R_secondNumberIn_7

def j_R_thirdNumberIn (k : Int64) : Int32 := j_R_lowestNumberIn k
set_option maxHeartbeats 4000000 in
set_option maxRecDepth 100000 in
theorem c_R_thirdNumberIn (l : Launch) (k : Int64) : Met l y_R_thirdNumberIn w_R_thirdNumberIn ({ frames := 1, cells := 0, slots := 0, locals := 21 }) (st_P [.long k]) (k2_QcV (.int (j_R_thirdNumberIn k))) 0 0 (fun _ => False) := by
  refine Met.ofW (cc := b_R_thirdNumberIn) (maxL := 2) (ret := (some .int)) (by decide) rfl ?_
  intro p e s m args below meth c s₁ B hml hv
  obtain ⟨rfl, -⟩ := hv
  have hx := B.exec
  have hb := B.bytes
  have hr := B.returns
  have hts := atoms_spec (ws := w_R_thirdNumberIn) B.pre
  have hown : s.vm.findClass "RoomEchoes" = some m.cls := findClass_of_methodNamed B.named
  have hlocks := B.notSynchronized
  have hl := lv_entry ([.long k]) (n := 2) (Nat.le_of_ble_eq_true rfl)
  rw [lg_entry_eq]
  generalize (lg_sl ([.long k]) ++ List.replicate (2 - (lg_sl ([.long k])).length) Slot.unset).toArray = ls at hl ⊢
  have hl : lv_has ls 2 [(0, .long k)] := hl
  refine lv_lload_n hx hb d_R_thirdNumberIn_0 rfl (lv_at hl 0 rfl) ?_
  refine rd_c (va_runS (As := [.long k]) (rest := []) ⟨hx, hb, hml, hown, hts⟩ (c_R_lowestNumberIn l k) (cwS 1 hts (gi_S mw304 mw346 mw303 mw30) rfl rfl rfl (by decide +kernel) ⟨Nat.le_of_ble_eq_true rfl, Nat.le_of_ble_eq_true rfl⟩) st_S rfl rfl hl.1 rfl (lv_room (Nat.le_of_ble_eq_true rfl)) d_R_thirdNumberIn_1 ⟨Nat.le_of_ble_eq_true rfl, Nat.le_of_ble_eq_true rfl⟩) ?_
  exact W.iret (v := j_R_lowestNumberIn k) hx hb hr (fun t ht hW => ⟨congrArg (fun z => Outcome.returned (some (Value.int z))) (by unfold j_R_thirdNumberIn; rfl), ht⟩) (fun q h => by cases h) d_R_thirdNumberIn_4

def j_M_hitsHigh (n : Int32) : Int32 := if n < 0 then (-n) / 2 else (n + 1) / 2
set_option maxHeartbeats 4000000 in
set_option maxRecDepth 100000 in
theorem c_M_hitsHigh (l : Launch) (n : Int32) : Met l y_M_hitsHigh w_M_hitsHigh ({ frames := 0, cells := 0, slots := 0, locals := 0 }) (st_P [.int n]) (k2_QcV (.int (j_M_hitsHigh n))) 0 0 (fun _ => False) := by
  refine Met.ofW (cc := b_M_hitsHigh) (maxL := 1) (ret := (some .int)) (by decide) rfl ?_
  intro p e s m args below meth c s₁ B hml hv
  obtain ⟨rfl, -⟩ := hv
  have hx := B.exec
  have hb := B.bytes
  have hr := B.returns
  have hts := atoms_spec (ws := w_M_hitsHigh) B.pre
  have hown : s.vm.findClass "RoomEchoesModel" = some m.cls := findClass_of_methodNamed B.named
  have hlocks := B.notSynchronized
  have hl := lv_entry ([.int n]) (n := 1) (Nat.le_of_ble_eq_true rfl)
  rw [lg_entry_eq]
  generalize (lg_sl ([.int n]) ++ List.replicate (1 - (lg_sl ([.int n])).length) Slot.unset).toArray = ls at hl ⊢
  have hl : lv_has ls 1 [(0, .int n)] := hl
  refine lv_iload_n hx hb d_M_hitsHigh_0 rfl (lv_at hl 0 rfl) ?_
  refine lv_if_lt (tgt := 12) hx hb d_M_hitsHigh_1 (by decide) (fun c_1 => ?_) (fun c_1 => ?_)
  · skip
    refine lv_iload_n hx hb d_M_hitsHigh_12 rfl (lv_at hl 0 rfl) ?_
    refine lv_ineg hx hb d_M_hitsHigh_13 ?_
    refine lv_iconst (v := 2) hx hb d_M_hitsHigh_14 (by decide) ?_
    refine lv_idiv hx hb d_M_hitsHigh_15 (by decide) ?_
    exact W.iret (v := (-n) / 2) hx hb hr (fun t ht hW => ⟨congrArg (fun z => Outcome.returned (some (Value.int z))) (by unfold j_M_hitsHigh; rw [if_pos c_1]), ht⟩) (fun q h => by cases h) d_M_hitsHigh_16
  · skip
    refine lv_iload_n hx hb d_M_hitsHigh_4 rfl (lv_at hl 0 rfl) ?_
    refine lv_iconst (v := 1) hx hb d_M_hitsHigh_5 (by decide) ?_
    refine lv_iadd hx hb d_M_hitsHigh_6 ?_
    refine lv_iconst (v := 2) hx hb d_M_hitsHigh_7 (by decide) ?_
    refine lv_idiv hx hb d_M_hitsHigh_8 (by decide) ?_
    refine lv_goto (tgt := 16) hx hb d_M_hitsHigh_9 (by decide) ?_
    exact W.iret (v := (n + 1) / 2) hx hb hr (fun t ht hW => ⟨congrArg (fun z => Outcome.returned (some (Value.int z))) (by unfold j_M_hitsHigh; rw [if_neg c_1]), ht⟩) (fun q h => by cases h) d_M_hitsHigh_16

def j_M_hitsLow (n : Int32) : Int32 := if n < 0 then (1 - n) / 2 else n / 2
set_option maxHeartbeats 4000000 in
set_option maxRecDepth 100000 in
theorem c_M_hitsLow (l : Launch) (n : Int32) : Met l y_M_hitsLow w_M_hitsLow ({ frames := 0, cells := 0, slots := 0, locals := 0 }) (st_P [.int n]) (k2_QcV (.int (j_M_hitsLow n))) 0 0 (fun _ => False) := by
  refine Met.ofW (cc := b_M_hitsLow) (maxL := 1) (ret := (some .int)) (by decide) rfl ?_
  intro p e s m args below meth c s₁ B hml hv
  obtain ⟨rfl, -⟩ := hv
  have hx := B.exec
  have hb := B.bytes
  have hr := B.returns
  have hts := atoms_spec (ws := w_M_hitsLow) B.pre
  have hown : s.vm.findClass "RoomEchoesModel" = some m.cls := findClass_of_methodNamed B.named
  have hlocks := B.notSynchronized
  have hl := lv_entry ([.int n]) (n := 1) (Nat.le_of_ble_eq_true rfl)
  rw [lg_entry_eq]
  generalize (lg_sl ([.int n]) ++ List.replicate (1 - (lg_sl ([.int n])).length) Slot.unset).toArray = ls at hl ⊢
  have hl : lv_has ls 1 [(0, .int n)] := hl
  refine lv_iload_n hx hb d_M_hitsLow_0 rfl (lv_at hl 0 rfl) ?_
  refine lv_if_lt (tgt := 10) hx hb d_M_hitsLow_1 (by decide) (fun c_1 => ?_) (fun c_1 => ?_)
  · skip
    refine lv_iconst (v := 1) hx hb d_M_hitsLow_10 (by decide) ?_
    refine lv_iload_n hx hb d_M_hitsLow_11 rfl (lv_at hl 0 rfl) ?_
    refine lv_isub hx hb d_M_hitsLow_12 ?_
    refine lv_iconst (v := 2) hx hb d_M_hitsLow_13 (by decide) ?_
    refine lv_idiv hx hb d_M_hitsLow_14 (by decide) ?_
    exact W.iret (v := (1 - n) / 2) hx hb hr (fun t ht hW => ⟨congrArg (fun z => Outcome.returned (some (Value.int z))) (by unfold j_M_hitsLow; rw [if_pos c_1]), ht⟩) (fun q h => by cases h) d_M_hitsLow_15
  · skip
    refine lv_iload_n hx hb d_M_hitsLow_4 rfl (lv_at hl 0 rfl) ?_
    refine lv_iconst (v := 2) hx hb d_M_hitsLow_5 (by decide) ?_
    refine lv_idiv hx hb d_M_hitsLow_6 (by decide) ?_
    refine lv_goto (tgt := 15) hx hb d_M_hitsLow_7 (by decide) ?_
    exact W.iret (v := n / 2) hx hb hr (fun t ht hW => ⟨congrArg (fun z => Outcome.returned (some (Value.int z))) (by unfold j_M_hitsLow; rw [if_neg c_1]), ht⟩) (fun q h => by cases h) d_M_hitsLow_15

def j_M_hits (n : Int32) : Int32 := (j_M_hitsLow n) + (j_M_hitsHigh n)
set_option maxHeartbeats 4000000 in
set_option maxRecDepth 100000 in
theorem c_M_hits (l : Launch) (n : Int32) : Met l y_M_hits w_M_hits ({ frames := 1, cells := 0, slots := 0, locals := 20 }) (st_P [.int n]) (k2_QcV (.int (j_M_hits n))) 0 0 (fun _ => False) := by
  refine Met.ofW (cc := b_M_hits) (maxL := 1) (ret := (some .int)) (by decide) rfl ?_
  intro p e s m args below meth c s₁ B hml hv
  obtain ⟨rfl, -⟩ := hv
  have hx := B.exec
  have hb := B.bytes
  have hr := B.returns
  have hts := atoms_spec (ws := w_M_hits) B.pre
  have hown : s.vm.findClass "RoomEchoesModel" = some m.cls := findClass_of_methodNamed B.named
  have hlocks := B.notSynchronized
  have hl := lv_entry ([.int n]) (n := 1) (Nat.le_of_ble_eq_true rfl)
  rw [lg_entry_eq]
  generalize (lg_sl ([.int n]) ++ List.replicate (1 - (lg_sl ([.int n])).length) Slot.unset).toArray = ls at hl ⊢
  have hl : lv_has ls 1 [(0, .int n)] := hl
  refine lv_iload_n hx hb d_M_hits_0 rfl (lv_at hl 0 rfl) ?_
  refine rd_c (va_runS (As := [.int n]) (rest := []) ⟨hx, hb, hml, hown, hts⟩ (c_M_hitsLow l n) (cwS 1 hts (gi_S mw520 mw518 mw519 mw34) rfl rfl rfl (by decide +kernel) ⟨Nat.le_of_ble_eq_true rfl, Nat.le_of_ble_eq_true rfl⟩) st_S rfl rfl hl.1 rfl (lv_room (Nat.le_of_ble_eq_true rfl)) d_M_hits_1 ⟨Nat.le_of_ble_eq_true rfl, Nat.le_of_ble_eq_true rfl⟩) ?_
  refine lv_iload_n hx hb d_M_hits_4 rfl (lv_at hl 0 rfl) ?_
  refine rd_c (va_runS (As := [.int n]) (rest := [.int (j_M_hitsLow n)]) ⟨hx, hb, hml, hown, hts⟩ (c_M_hitsHigh l n) (cwS 1 hts (gi_S mw527 mw525 mw526 mw34) rfl rfl rfl (by decide +kernel) ⟨Nat.le_of_ble_eq_true rfl, Nat.le_of_ble_eq_true rfl⟩) st_S rfl rfl hl.1 rfl (lv_room (Nat.le_of_ble_eq_true rfl)) d_M_hits_5 ⟨Nat.le_of_ble_eq_true rfl, Nat.le_of_ble_eq_true rfl⟩) ?_
  refine lv_iadd hx hb d_M_hits_8 ?_
  exact W.iret (v := (j_M_hitsLow n) + (j_M_hitsHigh n)) hx hb hr (fun t ht hW => ⟨congrArg (fun z => Outcome.returned (some (Value.int z))) (by unfold j_M_hits; rfl), ht⟩) (fun q h => by cases h) d_M_hits_9

def j_R_sizeWithin (n : Int32) : Int32 := if 1 < (if n < 1000 then n else 1000) then (if n < 1000 then n else 1000) else 1
set_option maxHeartbeats 4000000 in
set_option maxRecDepth 100000 in
theorem c_R_sizeWithin (l : Launch) (n : Int32) : Met l y_R_sizeWithin w_R_sizeWithin ({ frames := 1, cells := 0, slots := 0, locals := 14 }) (st_P [.int n]) (k2_QcV (.int (j_R_sizeWithin n))) 0 0 (fun _ => False) := by
  refine Met.ofW (cc := b_R_sizeWithin) (maxL := 1) (ret := (some .int)) (by decide) rfl ?_
  intro p e s m args below meth c s₁ B hml hv
  obtain ⟨rfl, -⟩ := hv
  have hx := B.exec
  have hb := B.bytes
  have hr := B.returns
  have hts := atoms_spec (ws := w_R_sizeWithin) B.pre
  have hown : s.vm.findClass "RoomEchoes" = some m.cls := findClass_of_methodNamed B.named
  have hlocks := B.notSynchronized
  have hl := lv_entry ([.int n]) (n := 1) (Nat.le_of_ble_eq_true rfl)
  rw [lg_entry_eq]
  generalize (lg_sl ([.int n]) ++ List.replicate (1 - (lg_sl ([.int n])).length) Slot.unset).toArray = ls at hl ⊢
  have hl : lv_has ls 1 [(0, .int n)] := hl
  refine lv_iconst (v := 1) hx hb d_R_sizeWithin_0 (by decide) ?_
  refine lv_sipush (v := 1000) hx hb d_R_sizeWithin_1 (by decide) ?_
  refine lv_iload_n hx hb d_R_sizeWithin_4 rfl (lv_at hl 0 rfl) ?_
  refine va_mmin hx hb (hml.trans hl.1.symm) hown (ht_ hts mw67) (ht_ hts mw68) (ht_ hts mw33) (ht_ hts mw69) (Nat.le_of_ble_eq_true rfl) (Nat.le_of_ble_eq_true rfl) (Nat.le_of_ble_eq_true rfl) (Nat.le_of_ble_eq_true rfl) d_R_sizeWithin_5 ?_
  refine va_mmax hx hb (hml.trans hl.1.symm) hown (ht_ hts mw70) (ht_ hts mw71) (ht_ hts mw33) (ht_ hts mw72) (Nat.le_of_ble_eq_true rfl) (Nat.le_of_ble_eq_true rfl) (Nat.le_of_ble_eq_true rfl) (Nat.le_of_ble_eq_true rfl) d_R_sizeWithin_8 ?_
  exact W.iret (v := if 1 < (if n < 1000 then n else 1000) then (if n < 1000 then n else 1000) else 1) hx hb hr (fun t ht hW => ⟨congrArg (fun z => Outcome.returned (some (Value.int z))) (by unfold j_R_sizeWithin; rfl), ht⟩) (fun q h => by cases h) d_R_sizeWithin_11

def j_it (th : Int32) : Nat → Int64 → Int64
  | 0, x => x
  | n + 1, x => j_it th n (x * th.toInt64 / 1000)

set_option maxHeartbeats 4000000 in
set_option maxRecDepth 100000 in
theorem c_R_strengthAfterHits (l : Launch) (g : Int64) (h : Int32) (th : Int32) : Met l y_R_strengthAfterHits w_R_strengthAfterHits ({ frames := 0, cells := 0, slots := 0, locals := 0 }) (st_P [.long g, .int h, .int th]) (k2_QcV (.long (j_it th h.toNatClampNeg g))) 0 0 (fun _ => False) := by
  refine Met.ofW (cc := b_R_strengthAfterHits) (maxL := 7) (ret := (some .long)) (by decide) rfl ?_
  intro p e s m args below meth c s₁ B hml hv
  obtain ⟨rfl, -⟩ := hv
  have hx := B.exec
  have hb := B.bytes
  have hr := B.returns
  have hts := atoms_spec (ws := w_R_strengthAfterHits) B.pre
  have hown : s.vm.findClass "RoomEchoes" = some m.cls := findClass_of_methodNamed B.named
  have hlocks := B.notSynchronized
  have hl := lv_entry ([.long g, .int h, .int th]) (n := 7) (Nat.le_of_ble_eq_true rfl)
  rw [lg_entry_eq]
  generalize (lg_sl ([.long g, .int h, .int th]) ++ List.replicate (7 - (lg_sl ([.long g, .int h, .int th])).length) Slot.unset).toArray = ls at hl ⊢
  have hl : lv_has ls 7 [(0, .long g), (2, .int h), (3, .int th)] := hl
  refine lv_lload_n hx hb d_R_strengthAfterHits_0 rfl (lv_at hl 0 rfl) ?_
  refine lv_lstore (lv' := [(4, .long g), (0, .long g), (2, .int h), (3, .int th)]) hx hb d_R_strengthAfterHits_1 hl (by decide) rfl (fun ls hl => ?_)
  refine lv_iconst (v := 0) hx hb d_R_strengthAfterHits_3 (by decide) ?_
  refine lv_istore (lv' := [(6, .int 0), (4, .long g), (0, .long g), (2, .int h), (3, .int th)]) hx hb d_R_strengthAfterHits_4 hl (by decide) rfl (fun ls hl => ?_)
  have hB := nu_lt31 h
  have lp : ∀ (n9 : Nat) (i : Nat) (y : Int64), h.toNatClampNeg < i + n9 → i ≤ h.toNatClampNeg → j_it th (h.toNatClampNeg - i) y = j_it th h.toNatClampNeg g → ∀ (ls : Array Slot), lv_has ls 7 [(6, .int (nI i)), (4, .long y), (0, .long g), (2, .int h), (3, .int th)] → W p l e (headSpec w_R_strengthAfterHits ({ frames := 0, cells := 0, slots := 0, locals := 0 })).room s m ([.long g, .int h, .int th] : List Value).toArray below meth c s.heap [] 0 0 (MQ below (k2_QcV (.long (j_it th h.toNatClampNeg g))) ([.long g, .int h, .int th] : List Value).toArray s 0 0 (fun _ => False)) (F0 m 6 ls []) := by
    intro n9
    induction n9 with
    | zero => intro i y hn hi hj ls hl; omega
    | succ n9 ih =>
      intro i y hn hi hj ls hl
      refine lv_iload hx hb d_R_strengthAfterHits_6 (lv_at hl 0 rfl) ?_
      refine lv_iload_n hx hb d_R_strengthAfterHits_8 rfl (lv_at hl 3 rfl) ?_
      refine lv_icmp_ge (tgt := 29) hx hb d_R_strengthAfterHits_9 (by decide) (fun c_9 => ?_) (fun c_9 => ?_)
      · skip
        refine lv_lload hx hb d_R_strengthAfterHits_29 (lv_at hl 1 rfl) ?_
        exact W.lret (v := y) hx hb hr (fun t ht hW => ⟨congrArg (fun z => Outcome.returned (some (Value.long z))) (by rw [← hj, show h.toNatClampNeg - i = 0 by have := nu_end (by omega) c_9; omega]; rfl), ht⟩) (fun q h => by cases h) d_R_strengthAfterHits_31
      · skip
        refine lv_lload hx hb d_R_strengthAfterHits_12 (lv_at hl 1 rfl) ?_
        refine lv_iload_n hx hb d_R_strengthAfterHits_14 rfl (lv_at hl 4 rfl) ?_
        refine lv_i2l hx hb d_R_strengthAfterHits_15 rfl ?_
        refine lv_lmul hx hb d_R_strengthAfterHits_16 ?_
        refine lv_ldc2 (v := 1000) hx hb hown (ht_ hts mw262) d_R_strengthAfterHits_17 ?_
        refine lv_ldiv hx hb d_R_strengthAfterHits_20 (by decide) ?_
        refine lv_lstore (lv' := [(4, .long ((y * th.toInt64) / 1000)), (6, .int (nI i)), (0, .long g), (2, .int h), (3, .int th)]) hx hb d_R_strengthAfterHits_21 hl (by decide) rfl (fun ls hl => ?_)
        refine lv_iinc (v := nI (i + 1)) (lv' := [(6, .int (nI (i + 1))), (4, .long ((y * th.toInt64) / 1000)), (0, .long g), (2, .int h), (3, .int th)]) hx hb d_R_strengthAfterHits_23 hl (k := 1) rfl (nI_succ _).symm (by decide) rfl (fun ls hl => ?_)
        refine lv_goto (tgt := 6) hx hb d_R_strengthAfterHits_26 (by decide) ?_
        exact ih (i + 1) _ (by omega) (nu_on (by omega) c_9) (by rw [← hj, show h.toNatClampNeg - i = h.toNatClampNeg - (i + 1) + 1 by have := nu_on (by omega) c_9; omega]; rfl) ls (lv_sub hl [0, 1, 2, 3, 4] rfl)
  exact lp (h.toNatClampNeg + 1) 0 g (by omega) (Nat.zero_le _) rfl ls (lv_sub hl [0, 1, 2, 3, 4] rfl)

def j_R_strengthAfterAxis (g : Int64) (n : Int32) (k0 : Int32) (k1 : Int32) : Int64 := j_it k1 (j_R_hitsAtSize n).toNatClampNeg (j_it k0 (j_R_hitsAtZero n).toNatClampNeg g)
set_option maxHeartbeats 4000000 in
set_option maxRecDepth 100000 in
theorem c_R_strengthAfterAxis (l : Launch) (g : Int64) (n : Int32) (k0 : Int32) (k1 : Int32) : Met l y_R_strengthAfterAxis w_R_strengthAfterAxis ({ frames := 1, cells := 0, slots := 0, locals := 26 }) (st_P [.long g, .int n, .int k0, .int k1]) (k2_QcV (.long (j_R_strengthAfterAxis g n k0 k1))) 0 0 (fun _ => False) := by
  refine Met.ofW (cc := b_R_strengthAfterAxis) (maxL := 7) (ret := (some .long)) (by decide) rfl ?_
  intro p e s m args below meth c s₁ B hml hv
  obtain ⟨rfl, -⟩ := hv
  have hx := B.exec
  have hb := B.bytes
  have hr := B.returns
  have hts := atoms_spec (ws := w_R_strengthAfterAxis) B.pre
  have hown : s.vm.findClass "RoomEchoes" = some m.cls := findClass_of_methodNamed B.named
  have hlocks := B.notSynchronized
  have hl := lv_entry ([.long g, .int n, .int k0, .int k1]) (n := 7) (Nat.le_of_ble_eq_true rfl)
  rw [lg_entry_eq]
  generalize (lg_sl ([.long g, .int n, .int k0, .int k1]) ++ List.replicate (7 - (lg_sl ([.long g, .int n, .int k0, .int k1])).length) Slot.unset).toArray = ls at hl ⊢
  have hl : lv_has ls 7 [(0, .long g), (2, .int n), (3, .int k0), (4, .int k1)] := hl
  refine lv_lload_n hx hb d_R_strengthAfterAxis_0 rfl (lv_at hl 0 rfl) ?_
  refine lv_iload_n hx hb d_R_strengthAfterAxis_1 rfl (lv_at hl 1 rfl) ?_
  refine rd_c (va_runS (As := [.int n]) (rest := [.long g]) ⟨hx, hb, hml, hown, hts⟩ (c_R_hitsAtZero l n) (cwS 1 hts (gi_S mw258 mw256 mw257 mw30) rfl rfl rfl (by decide +kernel) ⟨Nat.le_of_ble_eq_true rfl, Nat.le_of_ble_eq_true rfl⟩) st_S rfl rfl hl.1 rfl (lv_room (Nat.le_of_ble_eq_true rfl)) d_R_strengthAfterAxis_2 ⟨Nat.le_of_ble_eq_true rfl, Nat.le_of_ble_eq_true rfl⟩) ?_
  refine lv_iload_n hx hb d_R_strengthAfterAxis_5 rfl (lv_at hl 2 rfl) ?_
  refine rd_c (va_runS (As := [.long g, .int (j_R_hitsAtZero n), .int k0]) (rest := []) ⟨hx, hb, hml, hown, hts⟩ (c_R_strengthAfterHits l g (j_R_hitsAtZero n) k0) (cwS 3 hts (gi_S mw261 mw259 mw260 mw30) rfl rfl rfl (by decide +kernel) ⟨Nat.le_of_ble_eq_true rfl, Nat.le_of_ble_eq_true rfl⟩) st_S rfl rfl hl.1 rfl (lv_room (Nat.le_of_ble_eq_true rfl)) d_R_strengthAfterAxis_6 ⟨Nat.le_of_ble_eq_true rfl, Nat.le_of_ble_eq_true rfl⟩) ?_
  refine lv_lstore (lv' := [(5, .long (j_it k0 (j_R_hitsAtZero n).toNatClampNeg g)), (0, .long g), (2, .int n), (3, .int k0), (4, .int k1)]) hx hb d_R_strengthAfterAxis_9 hl (by decide) rfl (fun ls hl => ?_)
  refine lv_lload hx hb d_R_strengthAfterAxis_11 (lv_at hl 0 rfl) ?_
  refine lv_iload_n hx hb d_R_strengthAfterAxis_13 rfl (lv_at hl 2 rfl) ?_
  refine rd_c (va_runS (As := [.int n]) (rest := [.long (j_it k0 (j_R_hitsAtZero n).toNatClampNeg g)]) ⟨hx, hb, hml, hown, hts⟩ (c_R_hitsAtSize l n) (cwS 1 hts (gi_S mw265 mw263 mw264 mw30) rfl rfl rfl (by decide +kernel) ⟨Nat.le_of_ble_eq_true rfl, Nat.le_of_ble_eq_true rfl⟩) st_S rfl rfl hl.1 rfl (lv_room (Nat.le_of_ble_eq_true rfl)) d_R_strengthAfterAxis_14 ⟨Nat.le_of_ble_eq_true rfl, Nat.le_of_ble_eq_true rfl⟩) ?_
  refine lv_iload hx hb d_R_strengthAfterAxis_17 (lv_at hl 4 rfl) ?_
  refine rd_c (va_runS (As := [.long (j_it k0 (j_R_hitsAtZero n).toNatClampNeg g), .int (j_R_hitsAtSize n), .int k1]) (rest := []) ⟨hx, hb, hml, hown, hts⟩ (c_R_strengthAfterHits l (j_it k0 (j_R_hitsAtZero n).toNatClampNeg g) (j_R_hitsAtSize n) k1) (cwS 3 hts (gi_S mw261 mw259 mw260 mw30) rfl rfl rfl (by decide +kernel) ⟨Nat.le_of_ble_eq_true rfl, Nat.le_of_ble_eq_true rfl⟩) st_S rfl rfl hl.1 rfl (lv_room (Nat.le_of_ble_eq_true rfl)) d_R_strengthAfterAxis_19 ⟨Nat.le_of_ble_eq_true rfl, Nat.le_of_ble_eq_true rfl⟩) ?_
  exact W.lret (v := j_it k1 (j_R_hitsAtSize n).toNatClampNeg (j_it k0 (j_R_hitsAtZero n).toNatClampNeg g)) hx hb hr (fun t ht hW => ⟨congrArg (fun z => Outcome.returned (some (Value.long z))) (by unfold j_R_strengthAfterAxis; rfl), ht⟩) (fun q h => by cases h) d_R_strengthAfterAxis_22

def j_gcd : Nat → Int64 → Int64 → Int64
  | 0, x, _ => x
  | n + 1, x, y => if y = 0 then x else j_gcd n y (x - x / y * y)

set_option maxHeartbeats 4000000 in
set_option maxRecDepth 100000 in
theorem c_R_gcd (l : Launch) (x0 : Int64) (y0 : Int64) : Met l y_R_greatestCommonDivisor w_R_greatestCommonDivisor ({ frames := 0, cells := 0, slots := 0, locals := 0 }) (st_P [.long x0, .long y0]) (k2_QcV (.long (j_gcd 1000 x0 y0))) 0 0 (fun _ => False) := by
  refine Met.ofW (cc := b_R_greatestCommonDivisor) (maxL := 11) (ret := (some .long)) (by decide) rfl ?_
  intro p e s m args below meth c s₁ B hml hv
  obtain ⟨rfl, -⟩ := hv
  have hx := B.exec
  have hb := B.bytes
  have hr := B.returns
  have hts := atoms_spec (ws := w_R_greatestCommonDivisor) B.pre
  have hown : s.vm.findClass "RoomEchoes" = some m.cls := findClass_of_methodNamed B.named
  have hlocks := B.notSynchronized
  have hl := lv_entry ([.long x0, .long y0]) (n := 11) (Nat.le_of_ble_eq_true rfl)
  rw [lg_entry_eq]
  generalize (lg_sl ([.long x0, .long y0]) ++ List.replicate (11 - (lg_sl ([.long x0, .long y0])).length) Slot.unset).toArray = ls at hl ⊢
  have hl : lv_has ls 11 [(0, .long x0), (2, .long y0)] := hl
  refine lv_lload_n hx hb d_R_greatestCommonDivisor_0 rfl (lv_at hl 0 rfl) ?_
  refine lv_lstore (lv' := [(4, .long x0), (0, .long x0), (2, .long y0)]) hx hb d_R_greatestCommonDivisor_1 hl (by decide) rfl (fun ls hl => ?_)
  refine lv_lload_n hx hb d_R_greatestCommonDivisor_3 rfl (lv_at hl 2 rfl) ?_
  refine lv_lstore (lv' := [(6, .long y0), (4, .long x0), (0, .long x0), (2, .long y0)]) hx hb d_R_greatestCommonDivisor_4 hl (by decide) rfl (fun ls hl => ?_)
  refine lv_iconst (v := 0) hx hb d_R_greatestCommonDivisor_6 (by decide) ?_
  refine lv_istore (lv' := [(8, .int 0), (6, .long y0), (4, .long x0), (0, .long x0), (2, .long y0)]) hx hb d_R_greatestCommonDivisor_7 hl (by decide) rfl (fun ls hl => ?_)
  have lp : ∀ (n9 : Nat) (i : Nat) (x : Int64) (y : Int64), 1000 < i + n9 → i ≤ 1000 → j_gcd (1000 - i) x y = j_gcd 1000 x0 y0 → ∀ (ls : Array Slot), lv_has ls 11 [(8, .int (nI i)), (4, .long x), (6, .long y), (0, .long x0), (2, .long y0)] → W p l e (headSpec w_R_greatestCommonDivisor ({ frames := 0, cells := 0, slots := 0, locals := 0 })).room s m ([.long x0, .long y0] : List Value).toArray below meth c s.heap [] 0 0 (MQ below (k2_QcV (.long (j_gcd 1000 x0 y0))) ([.long x0, .long y0] : List Value).toArray s 0 0 (fun _ => False)) (F0 m 9 ls []) := by
    intro n9
    induction n9 with
    | zero => intro i x y hn hi hj ls hl; omega
    | succ n9 ih =>
      intro i x y hn hi hj ls hl
      refine lv_iload hx hb d_R_greatestCommonDivisor_9 (lv_at hl 0 rfl) ?_
      refine lv_sipush (v := 1000) hx hb d_R_greatestCommonDivisor_11 (by decide) ?_
      refine lv_icmp_ge (tgt := 45) hx hb d_R_greatestCommonDivisor_14 (by decide) (fun c_14 => ?_) (fun c_14 => ?_)
      · skip
        refine lv_lload hx hb d_R_greatestCommonDivisor_45 (lv_at hl 1 rfl) ?_
        exact W.lret (v := x) hx hb hr (fun t ht hW => ⟨congrArg (fun z => Outcome.returned (some (Value.long z))) (by rw [← hj, show 1000 - i = 0 by have : 1000 ≤ i := nu_end (x := 1000) (by omega) c_14; omega]; rfl), ht⟩) (fun q h => by cases h) d_R_greatestCommonDivisor_47
      · skip
        refine lv_lload hx hb d_R_greatestCommonDivisor_17 (lv_at hl 2 rfl) ?_
        refine lv_lconst (v := 0) hx hb d_R_greatestCommonDivisor_19 (by decide) ?_
        refine W.lcmp hx hb d_R_greatestCommonDivisor_20 ?_
        refine lv_if_eq (tgt := 45) hx hb d_R_greatestCommonDivisor_21 (by decide) (fun c_21 => ?_) (fun c_21 => ?_)
        · rw [lg_cmp_eq] at c_21
          refine lv_lload hx hb d_R_greatestCommonDivisor_45 (lv_at hl 1 rfl) ?_
          exact W.lret (v := x) hx hb hr (fun t ht hW => ⟨congrArg (fun z => Outcome.returned (some (Value.long z))) (by rw [← hj, show 1000 - i = 1000 - (i + 1) + 1 by have : i < 1000 := nu_on (x := 1000) (by omega) c_14; omega]; exact (if_pos c_21).symm), ht⟩) (fun q h => by cases h) d_R_greatestCommonDivisor_47
        · rw [lg_cmp_eq] at c_21
          refine lv_lload hx hb d_R_greatestCommonDivisor_24 (lv_at hl 1 rfl) ?_
          refine lv_lload hx hb d_R_greatestCommonDivisor_26 (lv_at hl 2 rfl) ?_
          refine lv_lrem hx hb d_R_greatestCommonDivisor_28 c_21 ?_
          refine lv_lstore (lv' := [(9, .long (x - x / y * y)), (8, .int (nI i)), (4, .long x), (6, .long y), (0, .long x0), (2, .long y0)]) hx hb d_R_greatestCommonDivisor_29 hl (by decide) rfl (fun ls hl => ?_)
          refine lv_lload hx hb d_R_greatestCommonDivisor_31 (lv_at hl 3 rfl) ?_
          refine lv_lstore (lv' := [(4, .long y), (9, .long (x - x / y * y)), (8, .int (nI i)), (6, .long y), (0, .long x0), (2, .long y0)]) hx hb d_R_greatestCommonDivisor_33 hl (by decide) rfl (fun ls hl => ?_)
          refine lv_lload hx hb d_R_greatestCommonDivisor_35 (lv_at hl 1 rfl) ?_
          refine lv_lstore (lv' := [(6, .long (x - x / y * y)), (4, .long y), (9, .long (x - x / y * y)), (8, .int (nI i)), (0, .long x0), (2, .long y0)]) hx hb d_R_greatestCommonDivisor_37 hl (by decide) rfl (fun ls hl => ?_)
          refine lv_iinc (v := nI (i + 1)) (lv' := [(8, .int (nI (i + 1))), (6, .long (x - x / y * y)), (4, .long y), (9, .long (x - x / y * y)), (0, .long x0), (2, .long y0)]) hx hb d_R_greatestCommonDivisor_39 hl (k := 3) rfl (nI_succ _).symm (by decide) rfl (fun ls hl => ?_)
          refine lv_goto (tgt := 9) hx hb d_R_greatestCommonDivisor_42 (by decide) ?_
          exact ih (i + 1) _ _ (by omega) (nu_on (x := 1000) (by omega) c_14) (by rw [← hj, show 1000 - i = 1000 - (i + 1) + 1 by have : i < 1000 := nu_on (x := 1000) (by omega) c_14; omega]; exact (if_neg c_21).symm) ls (lv_sub hl [0, 2, 1, 4, 5] rfl)
  exact lp 1001 0 x0 y0 (by omega) (by omega) rfl ls (lv_sub hl [0, 2, 1, 3, 4] rfl)
end
section
def j_A_imageAt (w : Int32) (sc : Int32) (n : Int32) : Int32 := if (n &&& 1) = 0 then (n * w) + sc else (n * w) + (w - sc)
set_option maxHeartbeats 4000000 in
set_option maxRecDepth 100000 in
theorem c_A_imageAt (l : Launch) (dC : Nat → ClassId) (dI : Nat → Nat → Nat) (cI cL : ClassId) (aA : Nat) (w : Int32) (sc : Int32) (li : Int32) (ar : Nat) (ak : Nat) (n : Int32) : Met l y_A_imageAt w_A_imageAt ({ frames := 0, cells := 0, slots := 0, locals := 0 }) (rd_P (dC, dI) cI cL [(aA, .inr (0, [.int w, .int sc, .int li, .ref ar, .ref ak]))] [.ref aA, .int n]) (k2_QcV (.int (j_A_imageAt w sc n))) 0 0 (fun _ => False) := by
  refine Met.ofW (cc := b_A_imageAt) (maxL := 3) (ret := (some .int)) (by decide) rfl ?_
  intro p e s m args below meth c s₁ B hml hv
  obtain ⟨rfl, hP, hM⟩ := hv
  have hx := B.exec
  have hb := B.bytes
  have hr := B.returns
  have hts := atoms_spec (ws := w_A_imageAt) B.pre
  have hown : s.vm.findClass "RoomEchoes$Axis" = some m.cls := findClass_of_methodNamed B.named
  have hlocks := B.notSynchronized
  have hK := hM.1
  have hl := lv_entry ([.ref aA, .int n]) (n := 3) (Nat.le_of_ble_eq_true rfl)
  rw [lg_entry_eq]
  generalize (lg_sl ([.ref aA, .int n]) ++ List.replicate (3 - (lg_sl ([.ref aA, .int n])).length) Slot.unset).toArray = ls at hl ⊢
  have hl : lv_has ls 3 [(0, .ref aA), (1, .int n)] := hl
  refine lv_iload_n hx hb d_A_imageAt_0 rfl (lv_at hl 1 rfl) ?_
  refine lv_iconst (v := 1) hx hb d_A_imageAt_1 (by decide) ?_
  refine lv_iand hx hb d_A_imageAt_2 ?_
  refine lv_if_ne (tgt := 10) hx hb d_A_imageAt_3 (by decide) (fun c_3 => ?_) (fun c_3 => ?_)
  · skip
    refine lv_iconst (v := 0) hx hb d_A_imageAt_10 (by decide) ?_
    refine lv_istore_n (lv' := [(2, .int 0), (0, .ref aA), (1, .int n)]) hx hb d_A_imageAt_11 rfl hl (by decide) rfl (fun ls hl => ?_)
    refine lv_iload_n hx hb d_A_imageAt_12 rfl (lv_at hl 2 rfl) ?_
    refine lv_aload_n hx hb d_A_imageAt_13 rfl (lv_at hl 1 rfl) ?_
    refine va_get (D := (dC, dI)) (ci := 0) (v := .int w) (C := "RoomEchoes$Axis") (T := FT_A) (N := 5) hx hb hts (hi_ in_A) hown hK hP 0 rfl rfl 0 (by decide) (ht_ hts mw77) (fun _ h9 => h9) rfl d_A_imageAt_14 ?_
    refine lv_imul hx hb d_A_imageAt_17 ?_
    refine lv_iload_n hx hb d_A_imageAt_18 rfl (lv_at hl 0 rfl) ?_
    refine lv_if_eq (tgt := 29) hx hb d_A_imageAt_19 (by decide) (fun c_19 => ?_) (fun c_19 => ?_)
    · skip
      refine lv_aload_n hx hb d_A_imageAt_29 rfl (lv_at hl 1 rfl) ?_
      refine va_get (D := (dC, dI)) (ci := 0) (v := .int w) (C := "RoomEchoes$Axis") (T := FT_A) (N := 5) hx hb hts (hi_ in_A) hown hK hP 0 rfl rfl 0 (by decide) (ht_ hts mw77) (fun _ h9 => h9) rfl d_A_imageAt_30 ?_
      refine lv_aload_n hx hb d_A_imageAt_33 rfl (lv_at hl 1 rfl) ?_
      refine va_get (D := (dC, dI)) (ci := 0) (v := .int sc) (C := "RoomEchoes$Axis") (T := FT_A) (N := 5) hx hb hts (hi_ in_A) hown hK hP 0 rfl rfl 1 (by decide) (ht_ hts mw80) (fun _ h9 => h9) rfl d_A_imageAt_34 ?_
      refine lv_isub hx hb d_A_imageAt_37 ?_
      refine lv_iadd hx hb d_A_imageAt_38 ?_
      exact W.iret (v := (n * w) + (w - sc)) hx hb hr (fun t ht hW => ⟨congrArg (fun z => Outcome.returned (some (Value.int z))) (by unfold j_A_imageAt; rw [if_neg c_3]), ht⟩) (fun q h => by cases h) d_A_imageAt_39
    · skip
      exact absurd (by decide) c_19
  · skip
    refine lv_iconst (v := 1) hx hb d_A_imageAt_6 (by decide) ?_
    refine lv_goto (tgt := 11) hx hb d_A_imageAt_7 (by decide) ?_
    refine lv_istore_n (lv' := [(2, .int 1), (0, .ref aA), (1, .int n)]) hx hb d_A_imageAt_11 rfl hl (by decide) rfl (fun ls hl => ?_)
    refine lv_iload_n hx hb d_A_imageAt_12 rfl (lv_at hl 2 rfl) ?_
    refine lv_aload_n hx hb d_A_imageAt_13 rfl (lv_at hl 1 rfl) ?_
    refine va_get (D := (dC, dI)) (ci := 0) (v := .int w) (C := "RoomEchoes$Axis") (T := FT_A) (N := 5) hx hb hts (hi_ in_A) hown hK hP 0 rfl rfl 0 (by decide) (ht_ hts mw77) (fun _ h9 => h9) rfl d_A_imageAt_14 ?_
    refine lv_imul hx hb d_A_imageAt_17 ?_
    refine lv_iload_n hx hb d_A_imageAt_18 rfl (lv_at hl 0 rfl) ?_
    refine lv_if_eq (tgt := 29) hx hb d_A_imageAt_19 (by decide) (fun c_19 => ?_) (fun c_19 => ?_)
    · skip
      exact absurd c_19 (by decide)
    · skip
      refine lv_aload_n hx hb d_A_imageAt_22 rfl (lv_at hl 1 rfl) ?_
      refine va_get (D := (dC, dI)) (ci := 0) (v := .int sc) (C := "RoomEchoes$Axis") (T := FT_A) (N := 5) hx hb hts (hi_ in_A) hown hK hP 0 rfl rfl 1 (by decide) (ht_ hts mw80) (fun _ h9 => h9) rfl d_A_imageAt_23 ?_
      refine lv_goto (tgt := 38) hx hb d_A_imageAt_26 (by decide) ?_
      refine lv_iadd hx hb d_A_imageAt_38 ?_
      exact W.iret (v := (n * w) + sc) hx hb hr (fun t ht hW => ⟨congrArg (fun z => Outcome.returned (some (Value.int z))) (by unfold j_A_imageAt; rw [if_pos c_3]), ht⟩) (fun q h => by cases h) d_A_imageAt_39

def j_A_squareTo (w : Int32) (sc : Int32) (li : Int32) (n : Int32) : Int64 := (((j_A_imageAt w sc n) - li).toInt64) * (((j_A_imageAt w sc n) - li).toInt64)
set_option maxHeartbeats 4000000 in
set_option maxRecDepth 100000 in
theorem c_A_squareTo (l : Launch) (dC : Nat → ClassId) (dI : Nat → Nat → Nat) (cI cL : ClassId) (aA : Nat) (w : Int32) (sc : Int32) (li : Int32) (ar : Nat) (ak : Nat) (n : Int32) : Met l y_A_squareTo w_A_squareTo ({ frames := 1, cells := 0, slots := 0, locals := 22 }) (rd_P (dC, dI) cI cL [(aA, .inr (0, [.int w, .int sc, .int li, .ref ar, .ref ak]))] [.ref aA, .int n]) (k2_QcV (.long (j_A_squareTo w sc li n))) 0 0 (fun _ => False) := by
  refine Met.ofW (cc := b_A_squareTo) (maxL := 4) (ret := (some .long)) (by decide) rfl ?_
  intro p e s m args below meth c s₁ B hml hv
  obtain ⟨rfl, hP, hM⟩ := hv
  have hx := B.exec
  have hb := B.bytes
  have hr := B.returns
  have hts := atoms_spec (ws := w_A_squareTo) B.pre
  have hown : s.vm.findClass "RoomEchoes$Axis" = some m.cls := findClass_of_methodNamed B.named
  have hlocks := B.notSynchronized
  have hK := hM.1
  have hl := lv_entry ([.ref aA, .int n]) (n := 4) (Nat.le_of_ble_eq_true rfl)
  rw [lg_entry_eq]
  generalize (lg_sl ([.ref aA, .int n]) ++ List.replicate (4 - (lg_sl ([.ref aA, .int n])).length) Slot.unset).toArray = ls at hl ⊢
  have hl : lv_has ls 4 [(0, .ref aA), (1, .int n)] := hl
  refine lv_aload_n hx hb d_A_squareTo_0 rfl (lv_at hl 0 rfl) ?_
  refine lv_iload_n hx hb d_A_squareTo_1 rfl (lv_at hl 1 rfl) ?_
  have hPc := hP.sub (ws' := [(aA, .inr (0, [.int w, .int sc, .int li, .ref ar, .ref ak]))]) [0] rfl
  refine rd_c (va_runV (As := [.int n]) (rest := []) ⟨hx, hb, hml, hown, hts⟩ (c_A_imageAt l dC dI cI cL aA w sc li ar ak n) (cwV 1 hts (gi_V mw247 mw244 mw246 mw4 mw32) rfl rfl rfl (by decide +kernel) ⟨Nat.le_of_ble_eq_true rfl, Nat.le_of_ble_eq_true rfl⟩) (rd_V hM hPc rfl rfl rfl) rfl rfl hl.1 rfl (lv_room (Nat.le_of_ble_eq_true rfl)) d_A_squareTo_2 ⟨Nat.le_of_ble_eq_true rfl, Nat.le_of_ble_eq_true rfl⟩) ?_
  refine lv_aload_n hx hb d_A_squareTo_5 rfl (lv_at hl 0 rfl) ?_
  refine va_get (D := (dC, dI)) (ci := 0) (v := .int li) (C := "RoomEchoes$Axis") (T := FT_A) (N := 5) hx hb hts (hi_ in_A) hown hK hP 0 rfl rfl 2 (by decide) (ht_ hts mw81) (fun _ h9 => h9) rfl d_A_squareTo_6 ?_
  refine lv_isub hx hb d_A_squareTo_9 ?_
  refine lv_i2l hx hb d_A_squareTo_10 rfl ?_
  refine lv_lstore_n (lv' := [(2, .long (((j_A_imageAt w sc n) - li).toInt64)), (0, .ref aA), (1, .int n)]) hx hb d_A_squareTo_11 rfl hl (by decide) rfl (fun ls hl => ?_)
  refine lv_lload_n hx hb d_A_squareTo_12 rfl (lv_at hl 0 rfl) ?_
  refine lv_lload_n hx hb d_A_squareTo_13 rfl (lv_at hl 0 rfl) ?_
  refine lv_lmul hx hb d_A_squareTo_14 ?_
  exact W.lret (v := (((j_A_imageAt w sc n) - li).toInt64) * (((j_A_imageAt w sc n) - li).toInt64)) hx hb hr (fun t ht hW => ⟨congrArg (fun z => Outcome.returned (some (Value.long z))) (by unfold j_A_squareTo; rfl), ht⟩) (fun q h => by cases h) d_A_squareTo_15

def j_A_squareAt (r : Nat → Int64) (n : Int32) : Int64 := if n < 0 then 0 else (if 81 ≤ n then 0 else (r n.toNatClampNeg) >>> ((7 : Int32).toInt64 &&& 63))
set_option maxHeartbeats 4000000 in
set_option maxRecDepth 100000 in
theorem c_A_squareAt (l : Launch) (dC : Nat → ClassId) (dI : Nat → Nat → Nat) (cI cL : ClassId) (aA : Nat) (w : Int32) (sc : Int32) (li : Int32) (ar : Nat) (ak : Nat) (r : Nat → Int64) (n : Int32) : Met l y_A_squareAt w_A_squareAt ({ frames := 0, cells := 0, slots := 0, locals := 0 }) (rd_P (dC, dI) cI cL [(aA, .inr (0, [.int w, .int sc, .int li, .ref ar, .ref ak])), (ar, .inl (cL, 81, .inr (.inl r)))] [.ref aA, .int n]) (k2_QcV (.long (j_A_squareAt r n))) 0 0 (fun _ => False) := by
  refine Met.ofW (cc := b_A_squareAt) (maxL := 2) (ret := (some .long)) (by decide) rfl ?_
  intro p e s m args below meth c s₁ B hml hv
  obtain ⟨rfl, hP, hM⟩ := hv
  have hx := B.exec
  have hb := B.bytes
  have hr := B.returns
  have hts := atoms_spec (ws := w_A_squareAt) B.pre
  have hown : s.vm.findClass "RoomEchoes$Axis" = some m.cls := findClass_of_methodNamed B.named
  have hlocks := B.notSynchronized
  have hK := hM.1
  have hl := lv_entry ([.ref aA, .int n]) (n := 2) (Nat.le_of_ble_eq_true rfl)
  rw [lg_entry_eq]
  generalize (lg_sl ([.ref aA, .int n]) ++ List.replicate (2 - (lg_sl ([.ref aA, .int n])).length) Slot.unset).toArray = ls at hl ⊢
  have hl : lv_has ls 2 [(0, .ref aA), (1, .int n)] := hl
  refine lv_iload_n hx hb d_A_squareAt_0 rfl (lv_at hl 1 rfl) ?_
  refine lv_if_lt (tgt := 22) hx hb d_A_squareAt_1 (by decide) (fun c_1 => ?_) (fun c_1 => ?_)
  · skip
    refine lv_lconst (v := 0) hx hb d_A_squareAt_22 (by decide) ?_
    exact W.lret (v := 0) hx hb hr (fun t ht hW => ⟨congrArg (fun z => Outcome.returned (some (Value.long z))) (by unfold j_A_squareAt; rw [if_pos c_1]), ht⟩) (fun q h => by cases h) d_A_squareAt_23
  · skip
    refine lv_iload_n hx hb d_A_squareAt_4 rfl (lv_at hl 1 rfl) ?_
    refine lv_bipush (v := 81) hx hb d_A_squareAt_5 (by decide) ?_
    refine lv_icmp_ge (tgt := 22) hx hb d_A_squareAt_7 (by decide) (fun c_7 => ?_) (fun c_7 => ?_)
    · skip
      refine lv_lconst (v := 0) hx hb d_A_squareAt_22 (by decide) ?_
      exact W.lret (v := 0) hx hb hr (fun t ht hW => ⟨congrArg (fun z => Outcome.returned (some (Value.long z))) (by unfold j_A_squareAt; rw [if_neg c_1, if_pos c_7]), ht⟩) (fun q h => by cases h) d_A_squareAt_23
    · skip
      refine lv_aload_n hx hb d_A_squareAt_10 rfl (lv_at hl 0 rfl) ?_
      refine va_get (D := (dC, dI)) (ci := 0) (v := .ref ar) (C := "RoomEchoes$Axis") (T := FT_A) (N := 5) hx hb hts (hi_ in_A) hown hK hP 0 rfl rfl 3 (by decide) (ht_ hts mw83) (fun _ h9 => h9) rfl d_A_squareAt_11 ?_
      refine lv_iload_n hx hb d_A_squareAt_14 rfl (lv_at hl 1 rfl) ?_
      refine va_lald hx hb hK hP 1 1 rfl rfl (in_ge c_1 c_7 rfl) d_A_squareAt_15 ?_
      refine lv_bipush (v := 7) hx hb d_A_squareAt_16 (by decide) ?_
      refine lv_lshr hx hb d_A_squareAt_18 rfl ?_
      refine lv_goto (tgt := 23) hx hb d_A_squareAt_19 (by decide) ?_
      exact W.lret (v := (r n.toNatClampNeg) >>> ((7 : Int32).toInt64 &&& 63)) hx hb hr (fun t ht hW => ⟨congrArg (fun z => Outcome.returned (some (Value.long z))) (by unfold j_A_squareAt; rw [if_neg c_1, if_neg c_7]), ht⟩) (fun q h => by cases h) d_A_squareAt_23

def j_A_numberAt (r : Nat → Int64) (n : Int32) : Int32 := if n < 0 then 0 else (if 81 ≤ n then 0 else j_R_lowestNumberIn (r n.toNatClampNeg))
set_option maxHeartbeats 4000000 in
set_option maxRecDepth 100000 in
theorem c_A_numberAt (l : Launch) (dC : Nat → ClassId) (dI : Nat → Nat → Nat) (cI cL : ClassId) (aA : Nat) (w : Int32) (sc : Int32) (li : Int32) (ar : Nat) (ak : Nat) (r : Nat → Int64) (n : Int32) : Met l y_A_numberAt w_A_numberAt ({ frames := 1, cells := 0, slots := 0, locals := 21 }) (rd_P (dC, dI) cI cL [(aA, .inr (0, [.int w, .int sc, .int li, .ref ar, .ref ak])), (ar, .inl (cL, 81, .inr (.inl r)))] [.ref aA, .int n]) (k2_QcV (.int (j_A_numberAt r n))) 0 0 (fun _ => False) := by
  refine Met.ofW (cc := b_A_numberAt) (maxL := 2) (ret := (some .int)) (by decide) rfl ?_
  intro p e s m args below meth c s₁ B hml hv
  obtain ⟨rfl, hP, hM⟩ := hv
  have hx := B.exec
  have hb := B.bytes
  have hr := B.returns
  have hts := atoms_spec (ws := w_A_numberAt) B.pre
  have hown : s.vm.findClass "RoomEchoes$Axis" = some m.cls := findClass_of_methodNamed B.named
  have hlocks := B.notSynchronized
  have hK := hM.1
  have hl := lv_entry ([.ref aA, .int n]) (n := 2) (Nat.le_of_ble_eq_true rfl)
  rw [lg_entry_eq]
  generalize (lg_sl ([.ref aA, .int n]) ++ List.replicate (2 - (lg_sl ([.ref aA, .int n])).length) Slot.unset).toArray = ls at hl ⊢
  have hl : lv_has ls 2 [(0, .ref aA), (1, .int n)] := hl
  refine lv_iload_n hx hb d_A_numberAt_0 rfl (lv_at hl 1 rfl) ?_
  refine lv_if_lt (tgt := 22) hx hb d_A_numberAt_1 (by decide) (fun c_1 => ?_) (fun c_1 => ?_)
  · skip
    refine lv_iconst (v := 0) hx hb d_A_numberAt_22 (by decide) ?_
    exact W.iret (v := 0) hx hb hr (fun t ht hW => ⟨congrArg (fun z => Outcome.returned (some (Value.int z))) (by unfold j_A_numberAt; rw [if_pos c_1]), ht⟩) (fun q h => by cases h) d_A_numberAt_23
  · skip
    refine lv_iload_n hx hb d_A_numberAt_4 rfl (lv_at hl 1 rfl) ?_
    refine lv_bipush (v := 81) hx hb d_A_numberAt_5 (by decide) ?_
    refine lv_icmp_ge (tgt := 22) hx hb d_A_numberAt_7 (by decide) (fun c_7 => ?_) (fun c_7 => ?_)
    · skip
      refine lv_iconst (v := 0) hx hb d_A_numberAt_22 (by decide) ?_
      exact W.iret (v := 0) hx hb hr (fun t ht hW => ⟨congrArg (fun z => Outcome.returned (some (Value.int z))) (by unfold j_A_numberAt; rw [if_neg c_1, if_pos c_7]), ht⟩) (fun q h => by cases h) d_A_numberAt_23
    · skip
      refine lv_aload_n hx hb d_A_numberAt_10 rfl (lv_at hl 0 rfl) ?_
      refine va_get (D := (dC, dI)) (ci := 0) (v := .ref ar) (C := "RoomEchoes$Axis") (T := FT_A) (N := 5) hx hb hts (hi_ in_A) hown hK hP 0 rfl rfl 3 (by decide) (ht_ hts mw83) (fun _ h9 => h9) rfl d_A_numberAt_11 ?_
      refine lv_iload_n hx hb d_A_numberAt_14 rfl (lv_at hl 1 rfl) ?_
      refine va_lald hx hb hK hP 1 1 rfl rfl (in_ge c_1 c_7 rfl) d_A_numberAt_15 ?_
      refine rd_c (va_runSN (As := [.long (r n.toNatClampNeg)]) (rest := []) ⟨hx, hb, hml, hown, hts⟩ (c_R_lowestNumberIn l (r n.toNatClampNeg)) ⟨va_cnB 1 hts (gi_0 mw304) rfl rfl rfl hM.2.2.2.1 (ht_ hts mw30) (by decide +kernel) ⟨Nat.le_of_ble_eq_true rfl, Nat.le_of_ble_eq_true rfl⟩, ht_ hts mw303, trivial⟩ st_S rfl rfl hl.1 rfl (lv_room (Nat.le_of_ble_eq_true rfl)) d_A_numberAt_16 ⟨Nat.le_of_ble_eq_true rfl, Nat.le_of_ble_eq_true rfl⟩) ?_
      refine lv_goto (tgt := 23) hx hb d_A_numberAt_19 (by decide) ?_
      exact W.iret (v := j_R_lowestNumberIn (r n.toNatClampNeg)) hx hb hr (fun t ht hW => ⟨congrArg (fun z => Outcome.returned (some (Value.int z))) (by unfold j_A_numberAt; rw [if_neg c_1, if_neg c_7]), ht⟩) (fun q h => by cases h) d_A_numberAt_23

def j_A_rankOf (k : Nat → Int32) (n : Int32) : Int32 := if (n + 40) < 0 then 81 else (if 81 ≤ (n + 40) then 81 else k (n + 40).toNatClampNeg)
set_option maxHeartbeats 4000000 in
set_option maxRecDepth 100000 in
theorem c_A_rankOf (l : Launch) (dC : Nat → ClassId) (dI : Nat → Nat → Nat) (cI cL : ClassId) (aA : Nat) (w : Int32) (sc : Int32) (li : Int32) (ar : Nat) (ak : Nat) (k : Nat → Int32) (n : Int32) : Met l y_A_rankOf w_A_rankOf ({ frames := 0, cells := 0, slots := 0, locals := 0 }) (rd_P (dC, dI) cI cL [(aA, .inr (0, [.int w, .int sc, .int li, .ref ar, .ref ak])), (ak, .inl (cI, 81, .inl k))] [.ref aA, .int n]) (k2_QcV (.int (j_A_rankOf k n))) 0 0 (fun _ => False) := by
  refine Met.ofW (cc := b_A_rankOf) (maxL := 3) (ret := (some .int)) (by decide) rfl ?_
  intro p e s m args below meth c s₁ B hml hv
  obtain ⟨rfl, hP, hM⟩ := hv
  have hx := B.exec
  have hb := B.bytes
  have hr := B.returns
  have hts := atoms_spec (ws := w_A_rankOf) B.pre
  have hown : s.vm.findClass "RoomEchoes$Axis" = some m.cls := findClass_of_methodNamed B.named
  have hlocks := B.notSynchronized
  have hK := hM.1
  have hl := lv_entry ([.ref aA, .int n]) (n := 3) (Nat.le_of_ble_eq_true rfl)
  rw [lg_entry_eq]
  generalize (lg_sl ([.ref aA, .int n]) ++ List.replicate (3 - (lg_sl ([.ref aA, .int n])).length) Slot.unset).toArray = ls at hl ⊢
  have hl : lv_has ls 3 [(0, .ref aA), (1, .int n)] := hl
  refine lv_iload_n hx hb d_A_rankOf_0 rfl (lv_at hl 1 rfl) ?_
  refine lv_bipush (v := 40) hx hb d_A_rankOf_1 (by decide) ?_
  refine lv_iadd hx hb d_A_rankOf_3 ?_
  refine lv_istore_n (lv' := [(2, .int (n + 40)), (0, .ref aA), (1, .int n)]) hx hb d_A_rankOf_4 rfl hl (by decide) rfl (fun ls hl => ?_)
  refine lv_iload_n hx hb d_A_rankOf_5 rfl (lv_at hl 0 rfl) ?_
  refine lv_if_lt (tgt := 24) hx hb d_A_rankOf_6 (by decide) (fun c_6 => ?_) (fun c_6 => ?_)
  · skip
    refine lv_bipush (v := 81) hx hb d_A_rankOf_24 (by decide) ?_
    exact W.iret (v := 81) hx hb hr (fun t ht hW => ⟨congrArg (fun z => Outcome.returned (some (Value.int z))) (by unfold j_A_rankOf; rw [if_pos c_6]), ht⟩) (fun q h => by cases h) d_A_rankOf_26
  · skip
    refine lv_iload_n hx hb d_A_rankOf_9 rfl (lv_at hl 0 rfl) ?_
    refine lv_bipush (v := 81) hx hb d_A_rankOf_10 (by decide) ?_
    refine lv_icmp_ge (tgt := 24) hx hb d_A_rankOf_12 (by decide) (fun c_12 => ?_) (fun c_12 => ?_)
    · skip
      refine lv_bipush (v := 81) hx hb d_A_rankOf_24 (by decide) ?_
      exact W.iret (v := 81) hx hb hr (fun t ht hW => ⟨congrArg (fun z => Outcome.returned (some (Value.int z))) (by unfold j_A_rankOf; rw [if_neg c_6, if_pos c_12]), ht⟩) (fun q h => by cases h) d_A_rankOf_26
    · skip
      refine lv_aload_n hx hb d_A_rankOf_15 rfl (lv_at hl 1 rfl) ?_
      refine va_get (D := (dC, dI)) (ci := 0) (v := .ref ak) (C := "RoomEchoes$Axis") (T := FT_A) (N := 5) hx hb hts (hi_ in_A) hown hK hP 0 rfl rfl 4 (by decide) (ht_ hts mw84) (fun _ h9 => h9) rfl d_A_rankOf_16 ?_
      refine lv_iload_n hx hb d_A_rankOf_19 rfl (lv_at hl 0 rfl) ?_
      refine va_iald hx hb hK hP 1 0 rfl rfl (in_ge c_6 c_12 rfl) d_A_rankOf_20 ?_
      refine lv_goto (tgt := 26) hx hb d_A_rankOf_21 (by decide) ?_
      exact W.iret (v := k (n + 40).toNatClampNeg) hx hb hr (fun t ht hW => ⟨congrArg (fun z => Outcome.returned (some (Value.int z))) (by unfold j_A_rankOf; rw [if_neg c_6, if_neg c_12]), ht⟩) (fun q h => by cases h) d_A_rankOf_26

def j_R_distanceOf (wX : Int32) (sX : Int32) (tX : Int32) (wY : Int32) (sY : Int32) (tY : Int32) (wZ : Int32) (sZ : Int32) (tZ : Int32) (a : Int32) (b : Int32) (c9 : Int32) : Int64 := ((j_A_squareTo wX sX tX a) + (j_A_squareTo wY sY tY b)) + (j_A_squareTo wZ sZ tZ c9)
set_option maxHeartbeats 4000000 in
set_option maxRecDepth 100000 in
theorem c_R_distanceOf (l : Launch) (dC : Nat → ClassId) (dI : Nat → Nat → Nat) (cI cL : ClassId) (aR : Nat) (aX : Nat) (aY : Nat) (aZ : Nat) (aK : Nat) (aF : Nat) (aE : Nat) (aL : Nat) (od : Int32) (wd : Int32) (wX : Int32) (sX : Int32) (tX : Int32) (rX : Nat) (kX : Nat) (wY : Int32) (sY : Int32) (tY : Int32) (rY : Nat) (kY : Nat) (wZ : Int32) (sZ : Int32) (tZ : Int32) (rZ : Nat) (kZ : Nat) (a : Int32) (b : Int32) (c9 : Int32) : Met l y_R_distanceOf w_R_distanceOf ({ frames := 2, cells := 0, slots := 0, locals := 45 }) (rd_P (dC, dI) cI cL [(aR, .inr (2, [.ref aX, .ref aY, .ref aZ, .ref aK, .ref aF, .ref aE, .ref aL, .int od, .int wd])), (aX, .inr (0, [.int wX, .int sX, .int tX, .ref rX, .ref kX])), (aY, .inr (0, [.int wY, .int sY, .int tY, .ref rY, .ref kY])), (aZ, .inr (0, [.int wZ, .int sZ, .int tZ, .ref rZ, .ref kZ]))] [.ref aR, .int a, .int b, .int c9]) (k2_QcV (.long (j_R_distanceOf wX sX tX wY sY tY wZ sZ tZ a b c9))) 0 0 (fun _ => False) := by
  refine Met.ofW (cc := b_R_distanceOf) (maxL := 4) (ret := (some .long)) (by decide) rfl ?_
  intro p e s m args below meth c s₁ B hml hv
  obtain ⟨rfl, hP, hM⟩ := hv
  have hx := B.exec
  have hb := B.bytes
  have hr := B.returns
  have hts := atoms_spec (ws := w_R_distanceOf) B.pre
  have hown : s.vm.findClass "RoomEchoes" = some m.cls := findClass_of_methodNamed B.named
  have hlocks := B.notSynchronized
  have hK := hM.1
  have hl := lv_entry ([.ref aR, .int a, .int b, .int c9]) (n := 4) (Nat.le_of_ble_eq_true rfl)
  rw [lg_entry_eq]
  generalize (lg_sl ([.ref aR, .int a, .int b, .int c9]) ++ List.replicate (4 - (lg_sl ([.ref aR, .int a, .int b, .int c9])).length) Slot.unset).toArray = ls at hl ⊢
  have hl : lv_has ls 4 [(0, .ref aR), (1, .int a), (2, .int b), (3, .int c9)] := hl
  refine lv_aload_n hx hb d_R_distanceOf_0 rfl (lv_at hl 0 rfl) ?_
  refine va_get (D := (dC, dI)) (ci := 2) (v := .ref aX) (C := "RoomEchoes") (T := FT_R) (N := 9) hx hb hts (hi_ in_R) hown hK hP 0 rfl rfl 0 (by decide) (ht_ hts mw96) (fun _ h9 => h9) rfl d_R_distanceOf_1 ?_
  refine lv_iload_n hx hb d_R_distanceOf_4 rfl (lv_at hl 1 rfl) ?_
  have hPc := hP.sub (ws' := [(aX, .inr (0, [.int wX, .int sX, .int tX, .ref rX, .ref kX]))]) [1] rfl
  refine rd_c (va_runV (As := [.int a]) (rest := []) ⟨hx, hb, hml, hown, hts⟩ (c_A_squareTo l dC dI cI cL aX wX sX tX rX kX a) (cwV 1 hts (gi_V mw243 mw240 mw241 mw242 mw32) rfl rfl rfl (by decide +kernel) ⟨Nat.le_of_ble_eq_true rfl, Nat.le_of_ble_eq_true rfl⟩) (rd_V hM hPc rfl rfl rfl) rfl rfl hl.1 rfl (lv_room (Nat.le_of_ble_eq_true rfl)) d_R_distanceOf_5 ⟨Nat.le_of_ble_eq_true rfl, Nat.le_of_ble_eq_true rfl⟩) ?_
  refine lv_aload_n hx hb d_R_distanceOf_8 rfl (lv_at hl 0 rfl) ?_
  refine va_get (D := (dC, dI)) (ci := 2) (v := .ref aY) (C := "RoomEchoes") (T := FT_R) (N := 9) hx hb hts (hi_ in_R) hown hK hP 0 rfl rfl 1 (by decide) (ht_ hts mw97) (fun _ h9 => h9) rfl d_R_distanceOf_9 ?_
  refine lv_iload_n hx hb d_R_distanceOf_12 rfl (lv_at hl 2 rfl) ?_
  have hPc := hP.sub (ws' := [(aY, .inr (0, [.int wY, .int sY, .int tY, .ref rY, .ref kY]))]) [2] rfl
  refine rd_c (va_runV (As := [.int b]) (rest := [.long (j_A_squareTo wX sX tX a)]) ⟨hx, hb, hml, hown, hts⟩ (c_A_squareTo l dC dI cI cL aY wY sY tY rY kY b) (cwV 1 hts (gi_V mw243 mw240 mw241 mw242 mw32) rfl rfl rfl (by decide +kernel) ⟨Nat.le_of_ble_eq_true rfl, Nat.le_of_ble_eq_true rfl⟩) (rd_V hM hPc rfl rfl rfl) rfl rfl hl.1 rfl (lv_room (Nat.le_of_ble_eq_true rfl)) d_R_distanceOf_13 ⟨Nat.le_of_ble_eq_true rfl, Nat.le_of_ble_eq_true rfl⟩) ?_
  refine lv_ladd hx hb d_R_distanceOf_16 ?_
  refine lv_aload_n hx hb d_R_distanceOf_17 rfl (lv_at hl 0 rfl) ?_
  refine va_get (D := (dC, dI)) (ci := 2) (v := .ref aZ) (C := "RoomEchoes") (T := FT_R) (N := 9) hx hb hts (hi_ in_R) hown hK hP 0 rfl rfl 2 (by decide) (ht_ hts mw98) (fun _ h9 => h9) rfl d_R_distanceOf_18 ?_
  refine lv_iload_n hx hb d_R_distanceOf_21 rfl (lv_at hl 3 rfl) ?_
  have hPc := hP.sub (ws' := [(aZ, .inr (0, [.int wZ, .int sZ, .int tZ, .ref rZ, .ref kZ]))]) [3] rfl
  refine rd_c (va_runV (As := [.int c9]) (rest := [.long ((j_A_squareTo wX sX tX a) + (j_A_squareTo wY sY tY b))]) ⟨hx, hb, hml, hown, hts⟩ (c_A_squareTo l dC dI cI cL aZ wZ sZ tZ rZ kZ c9) (cwV 1 hts (gi_V mw243 mw240 mw241 mw242 mw32) rfl rfl rfl (by decide +kernel) ⟨Nat.le_of_ble_eq_true rfl, Nat.le_of_ble_eq_true rfl⟩) (rd_V hM hPc rfl rfl rfl) rfl rfl hl.1 rfl (lv_room (Nat.le_of_ble_eq_true rfl)) d_R_distanceOf_22 ⟨Nat.le_of_ble_eq_true rfl, Nat.le_of_ble_eq_true rfl⟩) ?_
  refine lv_ladd hx hb d_R_distanceOf_25 ?_
  exact W.lret (v := ((j_A_squareTo wX sX tX a) + (j_A_squareTo wY sY tY b)) + (j_A_squareTo wZ sZ tZ c9)) hx hb hr (fun t ht hW => ⟨congrArg (fun z => Outcome.returned (some (Value.long z))) (by unfold j_R_distanceOf; rfl), ht⟩) (fun q h => by cases h) d_R_distanceOf_26

def j_R_strengthOf (kp : Nat → Int32) (a : Int32) (b : Int32) (c9 : Int32) : Int64 := j_R_strengthAfterAxis (j_R_strengthAfterAxis (j_R_strengthAfterAxis 1000000000 a (kp 0) (kp 1)) b (kp 2) (kp 3)) c9 (kp 4) (kp 5)
set_option maxHeartbeats 4000000 in
set_option maxRecDepth 100000 in
theorem c_R_strengthOf (l : Launch) (dC : Nat → ClassId) (dI : Nat → Nat → Nat) (cI cL : ClassId) (aR : Nat) (aX : Nat) (aY : Nat) (aZ : Nat) (aK : Nat) (aF : Nat) (aE : Nat) (aL : Nat) (od : Int32) (wd : Int32) (kp : Nat → Int32) (a : Int32) (b : Int32) (c9 : Int32) : Met l y_R_strengthOf w_R_strengthOf ({ frames := 2, cells := 0, slots := 0, locals := 52 }) (rd_P (dC, dI) cI cL [(aR, .inr (2, [.ref aX, .ref aY, .ref aZ, .ref aK, .ref aF, .ref aE, .ref aL, .int od, .int wd])), (aK, .inl (cI, 6, .inl kp))] [.ref aR, .int a, .int b, .int c9]) (k2_QcV (.long (j_R_strengthOf kp a b c9))) 0 0 (fun _ => False) := by
  refine Met.ofW (cc := b_R_strengthOf) (maxL := 8) (ret := (some .long)) (by decide) rfl ?_
  intro p e s m args below meth c s₁ B hml hv
  obtain ⟨rfl, hP, hM⟩ := hv
  have hx := B.exec
  have hb := B.bytes
  have hr := B.returns
  have hts := atoms_spec (ws := w_R_strengthOf) B.pre
  have hown : s.vm.findClass "RoomEchoes" = some m.cls := findClass_of_methodNamed B.named
  have hlocks := B.notSynchronized
  have hK := hM.1
  have hl := lv_entry ([.ref aR, .int a, .int b, .int c9]) (n := 8) (Nat.le_of_ble_eq_true rfl)
  rw [lg_entry_eq]
  generalize (lg_sl ([.ref aR, .int a, .int b, .int c9]) ++ List.replicate (8 - (lg_sl ([.ref aR, .int a, .int b, .int c9])).length) Slot.unset).toArray = ls at hl ⊢
  have hl : lv_has ls 8 [(0, .ref aR), (1, .int a), (2, .int b), (3, .int c9)] := hl
  refine lv_ldc2 (v := 1000000000) hx hb hown (ht_ hts mw252) d_R_strengthOf_0 ?_
  refine lv_iload_n hx hb d_R_strengthOf_3 rfl (lv_at hl 1 rfl) ?_
  refine lv_aload_n hx hb d_R_strengthOf_4 rfl (lv_at hl 0 rfl) ?_
  refine va_get (D := (dC, dI)) (ci := 2) (v := .ref aK) (C := "RoomEchoes") (T := FT_R) (N := 9) hx hb hts (hi_ in_R) hown hK hP 0 rfl rfl 3 (by decide) (ht_ hts mw99) (fun _ h9 => h9) rfl d_R_strengthOf_5 ?_
  refine lv_iconst (v := 0) hx hb d_R_strengthOf_8 (by decide) ?_
  refine va_iald hx hb hK hP 1 0 rfl rfl (by unfold vp_in; decide) d_R_strengthOf_9 ?_
  refine tp_i (kp 0) rfl ?_
  refine lv_aload_n hx hb d_R_strengthOf_10 rfl (lv_at hl 0 rfl) ?_
  refine va_get (D := (dC, dI)) (ci := 2) (v := .ref aK) (C := "RoomEchoes") (T := FT_R) (N := 9) hx hb hts (hi_ in_R) hown hK hP 0 rfl rfl 3 (by decide) (ht_ hts mw99) (fun _ h9 => h9) rfl d_R_strengthOf_11 ?_
  refine lv_iconst (v := 1) hx hb d_R_strengthOf_14 (by decide) ?_
  refine va_iald hx hb hK hP 1 0 rfl rfl (by unfold vp_in; decide) d_R_strengthOf_15 ?_
  refine tp_i (kp 1) rfl ?_
  refine rd_c (va_runS (As := [.long 1000000000, .int a, .int (kp 0), .int (kp 1)]) (rest := []) ⟨hx, hb, hml, hown, hts⟩ (c_R_strengthAfterAxis l 1000000000 a (kp 0) (kp 1)) (cwS 4 hts (gi_S mw255 mw253 mw254 mw30) rfl rfl rfl (by decide +kernel) ⟨Nat.le_of_ble_eq_true rfl, Nat.le_of_ble_eq_true rfl⟩) st_S rfl rfl hl.1 rfl (lv_room (Nat.le_of_ble_eq_true rfl)) d_R_strengthOf_16 ⟨Nat.le_of_ble_eq_true rfl, Nat.le_of_ble_eq_true rfl⟩) ?_
  refine lv_lstore (lv' := [(4, .long (j_R_strengthAfterAxis 1000000000 a (kp 0) (kp 1))), (0, .ref aR), (1, .int a), (2, .int b), (3, .int c9)]) hx hb d_R_strengthOf_19 hl (by decide) rfl (fun ls hl => ?_)
  refine lv_lload hx hb d_R_strengthOf_21 (lv_at hl 0 rfl) ?_
  refine lv_iload_n hx hb d_R_strengthOf_23 rfl (lv_at hl 3 rfl) ?_
  refine lv_aload_n hx hb d_R_strengthOf_24 rfl (lv_at hl 1 rfl) ?_
  refine va_get (D := (dC, dI)) (ci := 2) (v := .ref aK) (C := "RoomEchoes") (T := FT_R) (N := 9) hx hb hts (hi_ in_R) hown hK hP 0 rfl rfl 3 (by decide) (ht_ hts mw99) (fun _ h9 => h9) rfl d_R_strengthOf_25 ?_
  refine lv_iconst (v := 2) hx hb d_R_strengthOf_28 (by decide) ?_
  refine va_iald hx hb hK hP 1 0 rfl rfl (by unfold vp_in; decide) d_R_strengthOf_29 ?_
  refine tp_i (kp 2) rfl ?_
  refine lv_aload_n hx hb d_R_strengthOf_30 rfl (lv_at hl 1 rfl) ?_
  refine va_get (D := (dC, dI)) (ci := 2) (v := .ref aK) (C := "RoomEchoes") (T := FT_R) (N := 9) hx hb hts (hi_ in_R) hown hK hP 0 rfl rfl 3 (by decide) (ht_ hts mw99) (fun _ h9 => h9) rfl d_R_strengthOf_31 ?_
  refine lv_iconst (v := 3) hx hb d_R_strengthOf_34 (by decide) ?_
  refine va_iald hx hb hK hP 1 0 rfl rfl (by unfold vp_in; decide) d_R_strengthOf_35 ?_
  refine tp_i (kp 3) rfl ?_
  refine rd_c (va_runS (As := [.long (j_R_strengthAfterAxis 1000000000 a (kp 0) (kp 1)), .int b, .int (kp 2), .int (kp 3)]) (rest := []) ⟨hx, hb, hml, hown, hts⟩ (c_R_strengthAfterAxis l (j_R_strengthAfterAxis 1000000000 a (kp 0) (kp 1)) b (kp 2) (kp 3)) (cwS 4 hts (gi_S mw255 mw253 mw254 mw30) rfl rfl rfl (by decide +kernel) ⟨Nat.le_of_ble_eq_true rfl, Nat.le_of_ble_eq_true rfl⟩) st_S rfl rfl hl.1 rfl (lv_room (Nat.le_of_ble_eq_true rfl)) d_R_strengthOf_36 ⟨Nat.le_of_ble_eq_true rfl, Nat.le_of_ble_eq_true rfl⟩) ?_
  refine lv_lstore (lv' := [(6, .long (j_R_strengthAfterAxis (j_R_strengthAfterAxis 1000000000 a (kp 0) (kp 1)) b (kp 2) (kp 3))), (4, .long (j_R_strengthAfterAxis 1000000000 a (kp 0) (kp 1))), (0, .ref aR), (1, .int a), (2, .int b), (3, .int c9)]) hx hb d_R_strengthOf_39 hl (by decide) rfl (fun ls hl => ?_)
  refine lv_lload hx hb d_R_strengthOf_41 (lv_at hl 0 rfl) ?_
  refine lv_iload_n hx hb d_R_strengthOf_43 rfl (lv_at hl 5 rfl) ?_
  refine lv_aload_n hx hb d_R_strengthOf_44 rfl (lv_at hl 2 rfl) ?_
  refine va_get (D := (dC, dI)) (ci := 2) (v := .ref aK) (C := "RoomEchoes") (T := FT_R) (N := 9) hx hb hts (hi_ in_R) hown hK hP 0 rfl rfl 3 (by decide) (ht_ hts mw99) (fun _ h9 => h9) rfl d_R_strengthOf_45 ?_
  refine lv_iconst (v := 4) hx hb d_R_strengthOf_48 (by decide) ?_
  refine va_iald hx hb hK hP 1 0 rfl rfl (by unfold vp_in; decide) d_R_strengthOf_49 ?_
  refine tp_i (kp 4) rfl ?_
  refine lv_aload_n hx hb d_R_strengthOf_50 rfl (lv_at hl 2 rfl) ?_
  refine va_get (D := (dC, dI)) (ci := 2) (v := .ref aK) (C := "RoomEchoes") (T := FT_R) (N := 9) hx hb hts (hi_ in_R) hown hK hP 0 rfl rfl 3 (by decide) (ht_ hts mw99) (fun _ h9 => h9) rfl d_R_strengthOf_51 ?_
  refine lv_iconst (v := 5) hx hb d_R_strengthOf_54 (by decide) ?_
  refine va_iald hx hb hK hP 1 0 rfl rfl (by unfold vp_in; decide) d_R_strengthOf_55 ?_
  refine tp_i (kp 5) rfl ?_
  refine rd_c (va_runS (As := [.long (j_R_strengthAfterAxis (j_R_strengthAfterAxis 1000000000 a (kp 0) (kp 1)) b (kp 2) (kp 3)), .int c9, .int (kp 4), .int (kp 5)]) (rest := []) ⟨hx, hb, hml, hown, hts⟩ (c_R_strengthAfterAxis l (j_R_strengthAfterAxis (j_R_strengthAfterAxis 1000000000 a (kp 0) (kp 1)) b (kp 2) (kp 3)) c9 (kp 4) (kp 5)) (cwS 4 hts (gi_S mw255 mw253 mw254 mw30) rfl rfl rfl (by decide +kernel) ⟨Nat.le_of_ble_eq_true rfl, Nat.le_of_ble_eq_true rfl⟩) st_S rfl rfl hl.1 rfl (lv_room (Nat.le_of_ble_eq_true rfl)) d_R_strengthOf_56 ⟨Nat.le_of_ble_eq_true rfl, Nat.le_of_ble_eq_true rfl⟩) ?_
  exact W.lret (v := j_R_strengthAfterAxis (j_R_strengthAfterAxis (j_R_strengthAfterAxis 1000000000 a (kp 0) (kp 1)) b (kp 2) (kp 3)) c9 (kp 4) (kp 5)) hx hb hr (fun t ht hW => ⟨congrArg (fun z => Outcome.returned (some (Value.long z))) (by unfold j_R_strengthOf; rfl), ht⟩) (fun q h => by cases h) d_R_strengthOf_59

def j_cw (E : Nat → Int64) (d : Int64) : Nat → Nat → Nat
  | 0, i => i
  | n + 1, i => if d < j_R_distanceIn (E i) then i else j_cw E d n (i + 1)
def j_sum (f : Nat → Int64) (a : Nat) : Nat → Int64
  | 0 => 0
  | n + 1 => j_sum f a n + f (a + n)
theorem nu_max {f : Nat} (hf : f < 2147483648) : (if (0 : Int32) < nI f then nI f else 0) = nI f := by
  by_cases h : (0 : Int32) < nI f
  · rw [if_pos h]
  · rw [if_neg h]
    rw [Int32.lt_iff_toInt_lt, nI_toInt hf] at h
    have h0 : (0 : Int32).toInt = 0 := rfl
    have : f = 0 := by omega
    rw [this, nI_0]
theorem lc_1 {n l : Nat} {f : Nat → Int64} (hn : n < 2147483648) (hl : l + 1 < 2147483648) (h : nI n ≤ nI (l + 1)) : nI l = nI (pu_lc n f l) := by
  rw [nI_leI hn hl] at h
  unfold pu_lc
  rw [if_neg (by omega)]
theorem lc_2 {n l : Nat} {f : Nat → Int64} (h : f l ≤ f (l + 1)) : nI l = nI (pu_lc n f l) := by
  unfold pu_lc
  rw [if_neg (fun q => by have := q.2; rw [pu_lt] at this; rw [pu_le] at h; omega)]
theorem lc_3 {n l : Nat} {f : Nat → Int64} (hn : n < 2147483648) (hl : l + 1 < 2147483648) (h1 : ¬ nI n ≤ nI (l + 1)) (h : ¬ f l ≤ f (l + 1)) : nI (l + 1) = nI (pu_lc n f l) := by
  rw [nI_leI hn hl] at h1
  unfold pu_lc
  rw [if_pos ⟨by omega, pu_nle h⟩]

set_option maxHeartbeats 4000000 in
set_option maxRecDepth 100000 in
theorem c_R_countWithin (l : Launch) (dC : Nat → ClassId) (dI : Nat → Nat → Nat) (cI cL : ClassId) (aR : Nat) (aX : Nat) (aY : Nat) (aZ : Nat) (aK : Nat) (aF : Nat) (aE : Nat) (aL : Nat) (od : Int32) (wd : Int32) (E : Nat → Int64) (d : Int64) : Met l y_R_countWithin w_R_countWithin ({ frames := 1, cells := 0, slots := 0, locals := 21 }) (rd_P (dC, dI) cI cL [(aR, .inr (2, [.ref aX, .ref aY, .ref aZ, .ref aK, .ref aF, .ref aE, .ref aL, .int od, .int wd])), (aE, .inl (cL, 500, .inr (.inl E)))] [.ref aR, .long d]) (k2_QcV (.int (nI (j_cw E d 500 0)))) 0 0 (fun _ => False) := by
  refine Met.ofW (cc := b_R_countWithin) (maxL := 4) (ret := (some .int)) (by decide) rfl ?_
  intro p e s m args below meth c s₁ B hml hv
  obtain ⟨rfl, hP, hM⟩ := hv
  have hx := B.exec
  have hb := B.bytes
  have hr := B.returns
  have hts := atoms_spec (ws := w_R_countWithin) B.pre
  have hown : s.vm.findClass "RoomEchoes" = some m.cls := findClass_of_methodNamed B.named
  have hlocks := B.notSynchronized
  have hK := hM.1
  have hl := lv_entry ([.ref aR, .long d]) (n := 4) (Nat.le_of_ble_eq_true rfl)
  rw [lg_entry_eq]
  generalize (lg_sl ([.ref aR, .long d]) ++ List.replicate (4 - (lg_sl ([.ref aR, .long d])).length) Slot.unset).toArray = ls at hl ⊢
  have hl : lv_has ls 4 [(0, .ref aR), (1, .long d)] := hl
  refine lv_iconst (v := 0) hx hb d_R_countWithin_0 (by decide) ?_
  refine lv_istore_n (lv' := [(3, .int 0), (0, .ref aR), (1, .long d)]) hx hb d_R_countWithin_1 rfl hl (by decide) rfl (fun ls hl => ?_)
  have lp : ∀ (n9 : Nat) (i : Nat), 500 < i + n9 → i ≤ 500 → j_cw E d (500 - i) i = j_cw E d 500 0 → ∀ (ls : Array Slot), lv_has ls 4 [(3, .int (nI i)), (0, .ref aR), (1, .long d)] → W p l e (headSpec w_R_countWithin ({ frames := 1, cells := 0, slots := 0, locals := 21 })).room s m ([.ref aR, .long d] : List Value).toArray below meth c s.heap [] 0 0 (MQ below (k2_QcV (.int (nI (j_cw E d 500 0)))) ([.ref aR, .long d] : List Value).toArray s 0 0 (fun _ => False)) (F0 m 2 ls []) := by
    intro n9
    induction n9 with
    | zero => intro i hn hi hj ls hl; omega
    | succ n9 ih =>
      intro i hn hi hj ls hl
      refine lv_iload_n hx hb d_R_countWithin_2 rfl (lv_at hl 0 rfl) ?_
      refine lv_sipush (v := 500) hx hb d_R_countWithin_3 (by decide) ?_
      refine lv_icmp_ge (tgt := 29) hx hb d_R_countWithin_6 (by decide) (fun c_6 => ?_) (fun c_6 => ?_)
      · skip
        refine lv_iload_n hx hb d_R_countWithin_29 rfl (lv_at hl 0 rfl) ?_
        exact W.iret (v := nI i) hx hb hr (fun t ht hW => ⟨congrArg (fun z => Outcome.returned (some (Value.int z))) (by rw [← hj, show 500 - i = 0 by have : 500 ≤ i := nu_end (x := 500) (by omega) c_6; omega]; rfl), ht⟩) (fun q h => by cases h) d_R_countWithin_30
      · skip
        have i5 : i < 500 := nu_on (x := 500) (by omega) c_6
        refine lv_aload_n hx hb d_R_countWithin_9 rfl (lv_at hl 1 rfl) ?_
        refine va_get (D := (dC, dI)) (ci := 2) (v := .ref aE) (C := "RoomEchoes") (T := FT_R) (N := 9) hx hb hts (hi_ in_R) hown hK hP 0 rfl rfl 5 (by decide) (ht_ hts mw101) (fun _ h9 => h9) rfl d_R_countWithin_10 ?_
        refine lv_iload_n hx hb d_R_countWithin_13 rfl (lv_at hl 0 rfl) ?_
        refine va_lald hx hb hK hP 1 1 rfl rfl (vp_in_nI (by omega) (by omega)) d_R_countWithin_14 ?_
        refine tp_l (E i) (by rw [nI_clamp (by omega)]) ?_
        refine rd_c (va_runS (As := [.long (E i)]) (rest := []) ⟨hx, hb, hml, hown, hts⟩ (c_R_distanceIn l (E i)) (cwS 1 hts (gi_S mw382 mw380 mw381 mw30) rfl rfl rfl (by decide +kernel) ⟨Nat.le_of_ble_eq_true rfl, Nat.le_of_ble_eq_true rfl⟩) st_S rfl rfl hl.1 rfl (lv_room (Nat.le_of_ble_eq_true rfl)) d_R_countWithin_15 ⟨Nat.le_of_ble_eq_true rfl, Nat.le_of_ble_eq_true rfl⟩) ?_
        refine lv_lload_n hx hb d_R_countWithin_18 rfl (lv_at hl 2 rfl) ?_
        refine W.lcmp hx hb d_R_countWithin_19 ?_
        refine lv_if_gt (tgt := 29) hx hb d_R_countWithin_20 (by decide) (fun c_20 => ?_) (fun c_20 => ?_)
        · rw [lg_cmp_gt] at c_20
          refine lv_iload_n hx hb d_R_countWithin_29 rfl (lv_at hl 0 rfl) ?_
          exact W.iret (v := nI i) hx hb hr (fun t ht hW => ⟨congrArg (fun z => Outcome.returned (some (Value.int z))) (by rw [← hj, show 500 - i = 500 - (i + 1) + 1 by omega]; exact congrArg nI (if_pos c_20).symm), ht⟩) (fun q h => by cases h) d_R_countWithin_30
        · rw [lg_cmp_gt] at c_20
          refine lv_iinc (v := nI (i + 1)) (lv' := [(3, .int (nI (i + 1))), (0, .ref aR), (1, .long d)]) hx hb d_R_countWithin_23 hl (k := 0) rfl (nI_succ _).symm (by decide) rfl (fun ls hl => ?_)
          refine lv_goto (tgt := 2) hx hb d_R_countWithin_26 (by decide) ?_
          exact ih (i + 1) (by omega) (nu_on (x := 500) (by omega) c_6) (by rw [← hj, show 500 - i = 500 - (i + 1) + 1 by have : i < 500 := nu_on (x := 500) (by omega) c_6; omega]; exact (if_neg c_20).symm) ls (lv_sub hl [0, 1, 2] rfl)
  exact lp 501 0 (by omega) (by omega) rfl ls (lv_sub hl [0, 1, 2] rfl)

set_option maxHeartbeats 4000000 in
set_option maxRecDepth 100000 in
theorem c_R_loudnessBetween (l : Launch) (dC : Nat → ClassId) (dI : Nat → Nat → Nat) (cI cL : ClassId) (aR : Nat) (aX : Nat) (aY : Nat) (aZ : Nat) (aK : Nat) (aF : Nat) (aE : Nat) (aL : Nat) (od : Int32) (wd : Int32) (G : Nat → Int64) (fr : Nat) (en : Nat) (hfe : fr ≤ en) (he5 : en ≤ 500) : Met l y_R_loudnessBetween w_R_loudnessBetween ({ frames := 1, cells := 0, slots := 0, locals := 13 }) (rd_P (dC, dI) cI cL [(aR, .inr (2, [.ref aX, .ref aY, .ref aZ, .ref aK, .ref aF, .ref aE, .ref aL, .int od, .int wd])), (aL, .inl (cL, 500, .inr (.inl G)))] [.ref aR, .int (nI fr), .int (nI en)]) (k2_QcV (.long (j_sum G fr (en - fr)))) 0 0 (fun _ => False) := by
  refine Met.ofW (cc := b_R_loudnessBetween) (maxL := 6) (ret := (some .long)) (by decide) rfl ?_
  intro p e s m args below meth c s₁ B hml hv
  obtain ⟨rfl, hP, hM⟩ := hv
  have hx := B.exec
  have hb := B.bytes
  have hr := B.returns
  have hts := atoms_spec (ws := w_R_loudnessBetween) B.pre
  have hown : s.vm.findClass "RoomEchoes" = some m.cls := findClass_of_methodNamed B.named
  have hlocks := B.notSynchronized
  have hK := hM.1
  have hl := lv_entry ([.ref aR, .int (nI fr), .int (nI en)]) (n := 6) (Nat.le_of_ble_eq_true rfl)
  rw [lg_entry_eq]
  generalize (lg_sl ([.ref aR, .int (nI fr), .int (nI en)]) ++ List.replicate (6 - (lg_sl ([.ref aR, .int (nI fr), .int (nI en)])).length) Slot.unset).toArray = ls at hl ⊢
  have hl : lv_has ls 6 [(0, .ref aR), (1, .int (nI fr)), (2, .int (nI en))] := hl
  refine lv_lconst (v := 0) hx hb d_R_loudnessBetween_0 (by decide) ?_
  refine lv_lstore_n (lv' := [(3, .long 0), (0, .ref aR), (1, .int (nI fr)), (2, .int (nI en))]) hx hb d_R_loudnessBetween_1 rfl hl (by decide) rfl (fun ls hl => ?_)
  refine lv_iconst (v := 0) hx hb d_R_loudnessBetween_2 (by decide) ?_
  refine lv_iload_n hx hb d_R_loudnessBetween_3 rfl (lv_at hl 2 rfl) ?_
  refine va_mmax hx hb (hml.trans hl.1.symm) hown (ht_ hts mw70) (ht_ hts mw71) (ht_ hts mw33) (ht_ hts mw72) (Nat.le_of_ble_eq_true rfl) (Nat.le_of_ble_eq_true rfl) (Nat.le_of_ble_eq_true rfl) (Nat.le_of_ble_eq_true rfl) d_R_loudnessBetween_4 ?_
  refine tp_i (nI fr) (nu_max (by omega)) ?_
  refine lv_istore (lv' := [(5, .int (nI fr)), (3, .long 0), (0, .ref aR), (1, .int (nI fr)), (2, .int (nI en))]) hx hb d_R_loudnessBetween_7 hl (by decide) rfl (fun ls hl => ?_)
  have lp : ∀ (n9 : Nat) (i : Nat) (y : Int64), en < i + n9 → fr ≤ i → i ≤ en → y = j_sum G fr (i - fr) → ∀ (ls : Array Slot), lv_has ls 6 [(5, .int (nI i)), (3, .long y), (0, .ref aR), (1, .int (nI fr)), (2, .int (nI en))] → W p l e (headSpec w_R_loudnessBetween ({ frames := 1, cells := 0, slots := 0, locals := 13 })).room s m ([.ref aR, .int (nI fr), .int (nI en)] : List Value).toArray below meth c s.heap [] 0 0 (MQ below (k2_QcV (.long (j_sum G fr (en - fr)))) ([.ref aR, .int (nI fr), .int (nI en)] : List Value).toArray s 0 0 (fun _ => False)) (F0 m 9 ls []) := by
    intro n9
    induction n9 with
    | zero => intro i y hn hi hie hj ls hl; omega
    | succ n9 ih =>
      intro i y hn hi hie hj ls hl
      refine lv_iload hx hb d_R_loudnessBetween_9 (lv_at hl 0 rfl) ?_
      refine lv_iload_n hx hb d_R_loudnessBetween_11 rfl (lv_at hl 4 rfl) ?_
      refine lv_icmp_ge (tgt := 39) hx hb d_R_loudnessBetween_12 (by decide) (fun c_12 => ?_) (fun c_12 => ?_)
      · skip
        refine lv_lload_n hx hb d_R_loudnessBetween_39 rfl (lv_at hl 1 rfl) ?_
        exact W.lret (v := y) hx hb hr (fun t ht hW => ⟨congrArg (fun z => Outcome.returned (some (Value.long z))) (by rw [hj, show i = en by rw [nI_leI (by omega) (by omega)] at c_12; omega]), ht⟩) (fun q h => by cases h) d_R_loudnessBetween_40
      · skip
        have i5 : i < en := by rw [nI_leI (by omega) (by omega)] at c_12; omega
        refine lv_iload hx hb d_R_loudnessBetween_15 (lv_at hl 0 rfl) ?_
        refine lv_sipush (v := 500) hx hb d_R_loudnessBetween_17 (by decide) ?_
        refine lv_icmp_ge (tgt := 39) hx hb d_R_loudnessBetween_20 (by decide) (fun c_20 => ?_) (fun c_20 => ?_)
        · skip
          exact absurd (show nI 500 ≤ nI i from c_20) (nI_ge (by omega) (by omega))
        · skip
          refine lv_lload_n hx hb d_R_loudnessBetween_23 rfl (lv_at hl 1 rfl) ?_
          refine lv_aload_n hx hb d_R_loudnessBetween_24 rfl (lv_at hl 2 rfl) ?_
          refine va_get (D := (dC, dI)) (ci := 2) (v := .ref aL) (C := "RoomEchoes") (T := FT_R) (N := 9) hx hb hts (hi_ in_R) hown hK hP 0 rfl rfl 6 (by decide) (ht_ hts mw102) (fun _ h9 => h9) rfl d_R_loudnessBetween_25 ?_
          refine lv_iload hx hb d_R_loudnessBetween_28 (lv_at hl 0 rfl) ?_
          refine va_lald hx hb hK hP 1 1 rfl rfl (vp_in_nI (by omega) (by omega)) d_R_loudnessBetween_30 ?_
          refine tp_l (G i) (by rw [nI_clamp (by omega)]) ?_
          refine lv_ladd hx hb d_R_loudnessBetween_31 ?_
          refine lv_lstore_n (lv' := [(3, .long (y + (G i))), (5, .int (nI i)), (0, .ref aR), (1, .int (nI fr)), (2, .int (nI en))]) hx hb d_R_loudnessBetween_32 rfl hl (by decide) rfl (fun ls hl => ?_)
          refine lv_iinc (v := nI (i + 1)) (lv' := [(5, .int (nI (i + 1))), (3, .long (y + (G i))), (0, .ref aR), (1, .int (nI fr)), (2, .int (nI en))]) hx hb d_R_loudnessBetween_33 hl (k := 1) rfl (nI_succ _).symm (by decide) rfl (fun ls hl => ?_)
          refine lv_goto (tgt := 9) hx hb d_R_loudnessBetween_36 (by decide) ?_
          exact ih (i + 1) _ (by omega) (by omega) (by omega) (by rw [hj, show i + 1 - fr = i - fr + 1 by omega]; show j_sum G fr (i - fr) + G i = j_sum G fr (i - fr) + G (fr + (i - fr)); rw [show fr + (i - fr) = i by omega]) ls (lv_sub hl [0, 1, 2, 3, 4] rfl)
  exact lp (en + 1) fr 0 (by omega) (by omega) (by omega) (by rw [Nat.sub_self]; rfl) ls (lv_sub hl [0, 1, 2, 3, 4] rfl)

set_option maxHeartbeats 4000000 in
set_option maxRecDepth 100000 in
theorem c_F_lesserOf (l : Launch) (dC : Nat → ClassId) (dI : Nat → Nat → Nat) (cI cL : ClassId) (aF : Nat) (ak : Nat) (n : Nat) (f : Nat → Int64) (lf : Nat) (hn : n ≤ 1001) (hlf : lf < n) : Met l y_F_lesserOf w_F_lesserOf ({ frames := 0, cells := 0, slots := 0, locals := 0 }) (rd_P (dC, dI) cI cL [(aF, .inr (1, [.ref ak, .int (nI n)])), (ak, .inl (cL, 1001, .inr (.inl f)))] [.ref aF, .int (nI lf)]) (k2_QcV (.int (nI (pu_lc n f lf)))) 0 0 (fun _ => False) := by
  refine Met.ofW (cc := b_F_lesserOf) (maxL := 3) (ret := (some .int)) (by decide) rfl ?_
  intro p e s m args below meth c s₁ B hml hv
  obtain ⟨rfl, hP, hM⟩ := hv
  have hx := B.exec
  have hb := B.bytes
  have hr := B.returns
  have hts := atoms_spec (ws := w_F_lesserOf) B.pre
  have hown : s.vm.findClass "RoomEchoes$Frontier" = some m.cls := findClass_of_methodNamed B.named
  have hlocks := B.notSynchronized
  have hK := hM.1
  have hl := lv_entry ([.ref aF, .int (nI lf)]) (n := 3) (Nat.le_of_ble_eq_true rfl)
  rw [lg_entry_eq]
  generalize (lg_sl ([.ref aF, .int (nI lf)]) ++ List.replicate (3 - (lg_sl ([.ref aF, .int (nI lf)])).length) Slot.unset).toArray = ls at hl ⊢
  have hl : lv_has ls 3 [(0, .ref aF), (1, .int (nI lf))] := hl
  refine lv_iload_n hx hb d_F_lesserOf_0 rfl (lv_at hl 1 rfl) ?_
  refine lv_iconst (v := 1) hx hb d_F_lesserOf_1 (by decide) ?_
  refine lv_iadd hx hb d_F_lesserOf_2 ?_
  refine tp_i (nI (lf + 1)) (nI_1 lf) ?_
  refine lv_istore_n (lv' := [(2, .int (nI (lf + 1))), (0, .ref aF), (1, .int (nI lf))]) hx hb d_F_lesserOf_3 rfl hl (by decide) rfl (fun ls hl => ?_)
  refine lv_iload_n hx hb d_F_lesserOf_4 rfl (lv_at hl 0 rfl) ?_
  refine lv_aload_n hx hb d_F_lesserOf_5 rfl (lv_at hl 1 rfl) ?_
  refine va_get (D := (dC, dI)) (ci := 1) (v := .int (nI n)) (C := "RoomEchoes$Frontier") (T := FT_F) (N := 2) hx hb hts (hi_ in_F) hown hK hP 0 rfl rfl 1 (by decide) (ht_ hts mw54) (fun _ h9 => h9) rfl d_F_lesserOf_6 ?_
  refine lv_icmp_ge (tgt := 32) hx hb d_F_lesserOf_9 (by decide) (fun c_9 => ?_) (fun c_9 => ?_)
  · skip
    refine lv_iload_n hx hb d_F_lesserOf_32 rfl (lv_at hl 2 rfl) ?_
    exact W.iret (v := nI lf) hx hb hr (fun t ht hW => ⟨congrArg (fun z => Outcome.returned (some (Value.int z))) (lc_1 (by omega) (by omega) c_9), ht⟩) (fun q h => by cases h) d_F_lesserOf_33
  · skip
    have l5 : lf + 1 < n := by rw [nI_leI (by omega) (by omega)] at c_9; omega
    refine lv_aload_n hx hb d_F_lesserOf_12 rfl (lv_at hl 1 rfl) ?_
    refine va_get (D := (dC, dI)) (ci := 1) (v := .ref ak) (C := "RoomEchoes$Frontier") (T := FT_F) (N := 2) hx hb hts (hi_ in_F) hown hK hP 0 rfl rfl 0 (by decide) (ht_ hts mw53) (fun _ h9 => h9) rfl d_F_lesserOf_13 ?_
    refine lv_iload_n hx hb d_F_lesserOf_16 rfl (lv_at hl 0 rfl) ?_
    refine va_lald hx hb hK hP 1 1 rfl rfl (vp_in_nI (by omega) (by omega)) d_F_lesserOf_17 ?_
    refine tp_l (f (lf + 1)) (by rw [nI_clamp (by omega)]) ?_
    refine lv_aload_n hx hb d_F_lesserOf_18 rfl (lv_at hl 1 rfl) ?_
    refine va_get (D := (dC, dI)) (ci := 1) (v := .ref ak) (C := "RoomEchoes$Frontier") (T := FT_F) (N := 2) hx hb hts (hi_ in_F) hown hK hP 0 rfl rfl 0 (by decide) (ht_ hts mw53) (fun _ h9 => h9) rfl d_F_lesserOf_19 ?_
    refine lv_iload_n hx hb d_F_lesserOf_22 rfl (lv_at hl 2 rfl) ?_
    refine va_lald hx hb hK hP 1 1 rfl rfl (vp_in_nI (by omega) (by omega)) d_F_lesserOf_23 ?_
    refine tp_l (f lf) (by rw [nI_clamp (by omega)]) ?_
    refine W.lcmp hx hb d_F_lesserOf_24 ?_
    refine lv_if_ge (tgt := 32) hx hb d_F_lesserOf_25 (by decide) (fun c_25 => ?_) (fun c_25 => ?_)
    · rw [lg_cmp_ge] at c_25
      refine lv_iload_n hx hb d_F_lesserOf_32 rfl (lv_at hl 2 rfl) ?_
      exact W.iret (v := nI lf) hx hb hr (fun t ht hW => ⟨congrArg (fun z => Outcome.returned (some (Value.int z))) (lc_2 c_25), ht⟩) (fun q h => by cases h) d_F_lesserOf_33
    · rw [lg_cmp_ge] at c_25
      refine lv_iload_n hx hb d_F_lesserOf_28 rfl (lv_at hl 0 rfl) ?_
      refine lv_goto (tgt := 33) hx hb d_F_lesserOf_29 (by decide) ?_
      exact W.iret (v := nI (lf + 1)) hx hb hr (fun t ht hW => ⟨congrArg (fun z => Outcome.returned (some (Value.int z))) (lc_3 (by omega) (by omega) c_9 c_25), ht⟩) (fun q h => by cases h) d_F_lesserOf_33
end
section
theorem is_0 {key : Int64} {k : Nat} {r res : Nat → Int64} (hk : k < 2147483648) (h : nI k ≤ 0) (hj : pu_ins key k r = res) : vp_updL r k key = res := by
  have : k = 0 := by
    rw [Int32.le_iff_toInt_le, nI_toInt hk] at h
    have h0 : (0 : Int32).toInt = 0 := rfl
    omega
  subst this
  exact hj
theorem is_1 {key : Int64} {k : Nat} {r res : Nat → Int64} (h : r k ≤ key) (hj : pu_ins key (k + 1) r = res) : vp_updL r (k + 1) key = res := by
  rw [← hj]
  exact (if_neg (fun q => by rw [pu_lt] at q; rw [pu_le] at h; omega)).symm
theorem is_2 {key : Int64} {k : Nat} {r res : Nat → Int64} (h : ¬ r k ≤ key) (hj : pu_ins key (k + 1) r = res) : pu_ins key k (vp_updL r (k + 1) (r k)) = res := by
  rw [← hj]
  exact (if_pos (pu_nle h)).symm

set_option maxHeartbeats 4000000 in
set_option maxRecDepth 100000 in
theorem c_A_insert (l : Launch) (dC : Nat → ClassId) (dI : Nat → Nat → Nat) (cI cL : ClassId) (aA : Nat) (w : Int32) (sc : Int32) (li : Int32) (ar : Nat) (ak : Nat) (r : Nat → Int64) (n : Int32) (fl : Nat) (sz : Nat) (hfl : fl < 81) : Met l y_A_insert w_A_insert ({ frames := 2, cells := 0, slots := 0, locals := 45 }) (wr_P (dC, dI) cI cL [(aA, .inr (0, [.int w, .int sc, .int li, .ref ar, .ref ak])), (ar, .inl (cL, 81, .inr (.inl r)))] sz [.ref aA, .int n, .int (nI fl)]) (wr_v (dC, dI) (va_A [(aA, .inr (0, [.int w, .int sc, .int li, .ref ar, .ref ak])), (ar, .inl (cL, 81, .inr (.inl r)))] sz) [(aA, .inr (0, [.int w, .int sc, .int li, .ref ar, .ref ak])), (ar, .inl (cL, 81, .inr (.inl (pu_ins (j_R_withNumberBelow (j_A_squareTo w sc li n) n) fl r))))]) 0 0 (va_A [(aA, .inr (0, [.int w, .int sc, .int li, .ref ar, .ref ak])), (ar, .inl (cL, 81, .inr (.inl r)))] sz) := by
  refine Met.ofW (cc := b_A_insert) (maxL := 6) (ret := none) (by decide) rfl ?_
  intro p e s m args below meth c s₁ B hml hv
  obtain ⟨rfl, hsz, hP, hM, hD0⟩ := hv
  have hx := B.exec
  have hb := B.bytes
  have hr := B.returns
  have hts := atoms_spec (ws := w_A_insert) B.pre
  have hown : s.vm.findClass "RoomEchoes$Axis" = some m.cls := findClass_of_methodNamed B.named
  have hlocks := B.notSynchronized
  have hK := hM.1
  subst hsz
  have hD := hD0.self (sz := s.heap.size)
  generalize hAe : va_A [(aA, .inr (0, [.int w, .int sc, .int li, .ref ar, .ref ak])), (ar, .inl (cL, 81, .inr (.inl r)))] s.heap.size = A at hD ⊢
  have hA : ∀ q : Nat, s.heap.size ≤ q → A q := fun q h => by rw [← hAe]; exact Or.inr h
  have hS : va_S A s.heap s.heap [] := va_S.rf
  have hP : va_P (dC, dI) vwCl [(aA, .inr (0, [.int w, .int sc, .int li, .ref ar, .ref ak])), (ar, .inl (cL, 81, .inr (.inl r)))] s.heap := hP
  have hl := lv_entry ([.ref aA, .int n, .int (nI fl)]) (n := 6) (Nat.le_of_ble_eq_true rfl)
  rw [lg_entry_eq]
  generalize (lg_sl ([.ref aA, .int n, .int (nI fl)]) ++ List.replicate (6 - (lg_sl ([.ref aA, .int n, .int (nI fl)])).length) Slot.unset).toArray = ls at hl ⊢
  have hl : lv_has ls 6 [(0, .ref aA), (1, .int n), (2, .int (nI fl))] := hl
  refine lv_iload_n hx hb d_A_insert_0 rfl (lv_at hl 2 rfl) ?_
  refine lv_if_lt (tgt := 10) hx hb d_A_insert_1 (by decide) (fun c_1 => ?_) (fun c_1 => ?_)
  · skip
    exact absurd c_1 (nI_pos (by omega))
  · skip
    refine lv_iload_n hx hb d_A_insert_4 rfl (lv_at hl 2 rfl) ?_
    refine lv_bipush (v := 81) hx hb d_A_insert_5 (by decide) ?_
    refine lv_icmp_lt (tgt := 11) hx hb d_A_insert_7 (by decide) (fun c_7 => ?_) (fun c_7 => ?_)
    · skip
      refine lv_aload_n hx hb d_A_insert_11 rfl (lv_at hl 0 rfl) ?_
      refine lv_iload_n hx hb d_A_insert_12 rfl (lv_at hl 1 rfl) ?_
      have hPc := hP.sub (ws' := [(aA, .inr (0, [.int w, .int sc, .int li, .ref ar, .ref ak]))]) [0] rfl
      refine rd_c (va_runV (As := [.int n]) (rest := []) ⟨hx, hb, hml, hown, hts⟩ (c_A_squareTo l dC dI cI cL aA w sc li ar ak n) (cwV 1 hts (gi_V mw243 mw294 mw241 mw242 mw32) rfl rfl rfl (by decide +kernel) ⟨Nat.le_of_ble_eq_true rfl, Nat.le_of_ble_eq_true rfl⟩) (rd_V hM hPc rfl rfl rfl) rfl rfl hl.1 rfl (lv_room (Nat.le_of_ble_eq_true rfl)) d_A_insert_13 ⟨Nat.le_of_ble_eq_true rfl, Nat.le_of_ble_eq_true rfl⟩) ?_
      refine lv_iload_n hx hb d_A_insert_16 rfl (lv_at hl 1 rfl) ?_
      refine rd_c (va_runSN (As := [.long (j_A_squareTo w sc li n), .int n]) (rest := []) ⟨hx, hb, hml, hown, hts⟩ (c_R_withNumberBelow l (j_A_squareTo w sc li n) n) ⟨va_cnB 2 hts (gi_0 mw297) rfl rfl rfl hM.2.2.1 (ht_ hts mw30) (by decide +kernel) ⟨Nat.le_of_ble_eq_true rfl, Nat.le_of_ble_eq_true rfl⟩, ht_ hts mw296, trivial⟩ st_S rfl rfl hl.1 rfl (lv_room (Nat.le_of_ble_eq_true rfl)) d_A_insert_17 ⟨Nat.le_of_ble_eq_true rfl, Nat.le_of_ble_eq_true rfl⟩) ?_
      refine lv_topl (fun key_1 ekey_1 => ?_)
      refine lv_lstore_n (lv' := [(3, .long key_1), (0, .ref aA), (1, .int n), (2, .int (nI fl))]) hx hb d_A_insert_20 rfl hl (by decide) rfl (fun ls hl => ?_)
      refine lv_iload_n hx hb d_A_insert_21 rfl (lv_at hl 3 rfl) ?_
      refine lv_istore (lv' := [(5, .int (nI fl)), (3, .long key_1), (0, .ref aA), (1, .int n), (2, .int (nI fl))]) hx hb d_A_insert_22 hl (by decide) rfl (fun ls hl => ?_)
      have lp : ∀ (n9 : Nat) (k : Nat) (g : Nat → Int64), k < n9 → k ≤ fl → pu_ins key_1 k g = pu_ins (j_R_withNumberBelow (j_A_squareTo w sc li n) n) fl r → ∀ (H : Heap) (locs : List Loc), va_P (dC, dI) vwCl [(aA, .inr (0, [.int w, .int sc, .int li, .ref ar, .ref ak])), (ar, .inl (cL, 81, .inr (.inl g)))] H → va_D A [(aA, .inr (0, [.int w, .int sc, .int li, .ref ar, .ref ak])), (ar, .inl (cL, 81, .inr (.inl g)))] → va_S A s.heap H locs → ∀ (ls : Array Slot), lv_has ls 6 [(5, .int (nI k)), (3, .long key_1), (0, .ref aA), (1, .int n), (2, .int (nI fl))] → W p l e (headSpec w_A_insert ({ frames := 2, cells := 0, slots := 0, locals := 45 })).room s m ([.ref aA, .int n, .int (nI fl)] : List Value).toArray below meth c H locs 0 0 (MQ below (wr_v (dC, dI) A [(aA, .inr (0, [.int w, .int sc, .int li, .ref ar, .ref ak])), (ar, .inl (cL, 81, .inr (.inl (pu_ins (j_R_withNumberBelow (j_A_squareTo w sc li n) n) fl r))))]) ([.ref aA, .int n, .int (nI fl)] : List Value).toArray s 0 0 A) (F0 m 24 ls []) := by
        intro n9
        induction n9 with
        | zero => intro k g hn hk hj H locs hP hD hS ls hl; omega
        | succ n9 ih =>
          intro k g hn hk hj H locs hP hD hS ls hl
          refine lv_iload hx hb d_A_insert_24 (lv_at hl 0 rfl) ?_
          refine lv_if_le (tgt := 65) hx hb d_A_insert_26 (by decide) (fun c_26 => ?_) (fun c_26 => ?_)
          · skip
            refine lv_aload_n hx hb d_A_insert_65 rfl (lv_at hl 2 rfl) ?_
            refine va_get (D := (dC, dI)) (ci := 0) (v := .ref ar) (C := "RoomEchoes$Axis") (T := FT_A) (N := 5) hx hb hts (hi_ in_A) hown hK hP 0 rfl rfl 3 (by decide) (ht_ hts mw83) (fun _ h9 => h9) rfl d_A_insert_66 ?_
            refine lv_iload hx hb d_A_insert_69 (lv_at hl 0 rfl) ?_
            refine lv_lload_n hx hb d_A_insert_71 rfl (lv_at hl 1 rfl) ?_
            refine va_last hx hb hK hP hD hS 1 1 rfl rfl (vp_in_nI (by omega) (by omega)) d_A_insert_72 (fun H locs hP hD hS => ?_)
            rw [nI_clamp (n := k) (by omega)] at hP hD
            have hP : va_P (dC, dI) vwCl [(aA, .inr (0, [.int w, .int sc, .int li, .ref ar, .ref ak])), (ar, .inl (cL, 81, .inr (.inl (vp_updL g k key_1))))] H := hP
            have hD : va_D A [(aA, .inr (0, [.int w, .int sc, .int li, .ref ar, .ref ak])), (ar, .inl (cL, 81, .inr (.inl (vp_updL g k key_1))))] := hD
            have e9 : vp_updL g k key_1 = pu_ins (j_R_withNumberBelow (j_A_squareTo w sc li n) n) fl r := is_0 (by omega) c_26 hj
            rw [e9] at hP hD
            have hP9 : va_P (dC, dI) vwCl [(aA, .inr (0, [.int w, .int sc, .int li, .ref ar, .ref ak])), (ar, .inl (cL, 81, .inr (.inl (pu_ins (j_R_withNumberBelow (j_A_squareTo w sc li n) n) fl r))))] H := hP
            have hD9 : va_D A [(aA, .inr (0, [.int w, .int sc, .int li, .ref ar, .ref ak])), (ar, .inl (cL, 81, .inr (.inl (pu_ins (j_R_withNumberBelow (j_A_squareTo w sc li n) n) fl r))))] := hD
            exact W.vret hx hb hr (fun t ht hW => ⟨⟨(), rfl, trivial, by rw [ht]; exact hP9, hD9⟩, hS.F ht⟩) hS.2.2 d_A_insert_73
          · skip
            obtain ⟨j, rfl⟩ : ∃ j, k = j + 1 := ⟨k - 1, by have : k ≠ 0 := fun q => c_26 (by rw [q]; decide); omega⟩
            refine lv_aload_n hx hb d_A_insert_29 rfl (lv_at hl 2 rfl) ?_
            refine va_get (D := (dC, dI)) (ci := 0) (v := .ref ar) (C := "RoomEchoes$Axis") (T := FT_A) (N := 5) hx hb hts (hi_ in_A) hown hK hP 0 rfl rfl 3 (by decide) (ht_ hts mw83) (fun _ h9 => h9) rfl d_A_insert_30 ?_
            refine lv_iload hx hb d_A_insert_33 (lv_at hl 0 rfl) ?_
            refine lv_iconst (v := 1) hx hb d_A_insert_35 (by decide) ?_
            refine lv_isub hx hb d_A_insert_36 ?_
            refine tp_i (nI j) (nI_pred j) ?_
            refine va_lald hx hb hK hP 1 1 rfl rfl (vp_in_nI (by omega) (by omega)) d_A_insert_37 ?_
            refine tp_l (g j) (by rw [nI_clamp (by omega)]) ?_
            refine lv_lload_n hx hb d_A_insert_38 rfl (lv_at hl 1 rfl) ?_
            refine W.lcmp hx hb d_A_insert_39 ?_
            refine lv_if_le (tgt := 65) hx hb d_A_insert_40 (by decide) (fun c_40 => ?_) (fun c_40 => ?_)
            · rw [lg_cmp_le] at c_40
              refine lv_aload_n hx hb d_A_insert_65 rfl (lv_at hl 2 rfl) ?_
              refine va_get (D := (dC, dI)) (ci := 0) (v := .ref ar) (C := "RoomEchoes$Axis") (T := FT_A) (N := 5) hx hb hts (hi_ in_A) hown hK hP 0 rfl rfl 3 (by decide) (ht_ hts mw83) (fun _ h9 => h9) rfl d_A_insert_66 ?_
              refine lv_iload hx hb d_A_insert_69 (lv_at hl 0 rfl) ?_
              refine lv_lload_n hx hb d_A_insert_71 rfl (lv_at hl 1 rfl) ?_
              refine va_last hx hb hK hP hD hS 1 1 rfl rfl (vp_in_nI (by omega) (by omega)) d_A_insert_72 (fun H locs hP hD hS => ?_)
              rw [nI_clamp (n := (j + 1)) (by omega)] at hP hD
              have hP : va_P (dC, dI) vwCl [(aA, .inr (0, [.int w, .int sc, .int li, .ref ar, .ref ak])), (ar, .inl (cL, 81, .inr (.inl (vp_updL g (j + 1) key_1))))] H := hP
              have hD : va_D A [(aA, .inr (0, [.int w, .int sc, .int li, .ref ar, .ref ak])), (ar, .inl (cL, 81, .inr (.inl (vp_updL g (j + 1) key_1))))] := hD
              have e9 : vp_updL g (j + 1) key_1 = pu_ins (j_R_withNumberBelow (j_A_squareTo w sc li n) n) fl r := is_1 c_40 hj
              rw [e9] at hP hD
              have hP9 : va_P (dC, dI) vwCl [(aA, .inr (0, [.int w, .int sc, .int li, .ref ar, .ref ak])), (ar, .inl (cL, 81, .inr (.inl (pu_ins (j_R_withNumberBelow (j_A_squareTo w sc li n) n) fl r))))] H := hP
              have hD9 : va_D A [(aA, .inr (0, [.int w, .int sc, .int li, .ref ar, .ref ak])), (ar, .inl (cL, 81, .inr (.inl (pu_ins (j_R_withNumberBelow (j_A_squareTo w sc li n) n) fl r))))] := hD
              exact W.vret hx hb hr (fun t ht hW => ⟨⟨(), rfl, trivial, by rw [ht]; exact hP9, hD9⟩, hS.F ht⟩) hS.2.2 d_A_insert_73
            · rw [lg_cmp_le] at c_40
              refine lv_aload_n hx hb d_A_insert_43 rfl (lv_at hl 2 rfl) ?_
              refine va_get (D := (dC, dI)) (ci := 0) (v := .ref ar) (C := "RoomEchoes$Axis") (T := FT_A) (N := 5) hx hb hts (hi_ in_A) hown hK hP 0 rfl rfl 3 (by decide) (ht_ hts mw83) (fun _ h9 => h9) rfl d_A_insert_44 ?_
              refine lv_iload hx hb d_A_insert_47 (lv_at hl 0 rfl) ?_
              refine lv_aload_n hx hb d_A_insert_49 rfl (lv_at hl 2 rfl) ?_
              refine va_get (D := (dC, dI)) (ci := 0) (v := .ref ar) (C := "RoomEchoes$Axis") (T := FT_A) (N := 5) hx hb hts (hi_ in_A) hown hK hP 0 rfl rfl 3 (by decide) (ht_ hts mw83) (fun _ h9 => h9) rfl d_A_insert_50 ?_
              refine lv_iload hx hb d_A_insert_53 (lv_at hl 0 rfl) ?_
              refine lv_iconst (v := 1) hx hb d_A_insert_55 (by decide) ?_
              refine lv_isub hx hb d_A_insert_56 ?_
              refine tp_i (nI j) (nI_pred j) ?_
              refine va_lald hx hb hK hP 1 1 rfl rfl (vp_in_nI (by omega) (by omega)) d_A_insert_57 ?_
              refine tp_l (g j) (by rw [nI_clamp (by omega)]) ?_
              refine va_last hx hb hK hP hD hS 1 1 rfl rfl (vp_in_nI (by omega) (by omega)) d_A_insert_58 (fun H locs hP hD hS => ?_)
              rw [nI_clamp (n := (j + 1)) (by omega)] at hP hD
              have hP : va_P (dC, dI) vwCl [(aA, .inr (0, [.int w, .int sc, .int li, .ref ar, .ref ak])), (ar, .inl (cL, 81, .inr (.inl (vp_updL g (j + 1) (g j)))))] H := hP
              have hD : va_D A [(aA, .inr (0, [.int w, .int sc, .int li, .ref ar, .ref ak])), (ar, .inl (cL, 81, .inr (.inl (vp_updL g (j + 1) (g j)))))] := hD
              refine lv_iinc (v := nI j) (lv' := [(5, .int (nI j)), (3, .long key_1), (0, .ref aA), (1, .int n), (2, .int (nI fl))]) hx hb d_A_insert_59 hl (k := 0) rfl (pk_m1 _) (by decide) rfl (fun ls hl => ?_)
              refine lv_goto (tgt := 24) hx hb d_A_insert_62 (by decide) ?_
              exact ih j _ (by omega) (by omega) (is_2 c_40 hj) _ _ hP hD hS ls (lv_sub hl [0, 1, 2, 3, 4] rfl)
      exact lp (fl + 1) fl r (by omega) (Nat.le_refl _) (by rw [ekey_1]) _ _ hP hD hS ls (lv_sub hl [0, 1, 2, 3, 4] rfl)
    · skip
      exact absurd (show nI fl < nI 81 from nI_lt (by omega) (by omega)) c_7

def j_axK (w sc li : Int32) (z : Int) : Int64 := j_R_withNumberBelow (j_A_squareTo w sc li (Int32.ofInt z)) (Int32.ofInt z)
def j_rk (r : Nat → Int64) (k : Nat → Int32) : Nat → (Nat → Int32)
  | 0 => k
  | i + 1 => if j_A_numberAt r (nI i) + 40 < 0 then j_rk r k i else if 81 ≤ j_A_numberAt r (nI i) + 40 then j_rk r k i else upd (j_rk r k i) (j_A_numberAt r (nI i) + 40).toNatClampNeg (nI i)
theorem j_rk_s (r : Nat → Int64) (k : Nat → Int32) (i : Nat) : j_rk r k (i + 1) = if j_A_numberAt r (nI i) + 40 < 0 then j_rk r k i else if 81 ≤ j_A_numberAt r (nI i) + 40 then j_rk r k i else upd (j_rk r k i) (j_A_numberAt r (nI i) + 40).toNatClampNeg (nI i) := rfl
theorem nu_pos (a : Nat) : nI (a + 1) = Int32.ofInt ((a : Int) + 1) := rfl
theorem nu_neg (a : Nat) : -(nI (a + 1)) = Int32.ofInt (-((a : Int) + 1)) := by
  rw [nu_pos]
  exact (Int32.ofInt_neg _).symm
theorem nu_2m (a : Nat) : 2 * nI (a + 1) - 1 = nI (2 * a + 1) := by
  rw [show (2 : Int32) = nI 2 from rfl, pk_mul, show 2 * (a + 1) = 2 * a + 1 + 1 by omega, nI_pred]
theorem nu_2 (a : Nat) : 2 * nI (a + 1) = nI (2 * a + 2) := by
  rw [show (2 : Int32) = nI 2 from rfl, pk_mul]
  rfl

set_option maxHeartbeats 4000000 in
set_option maxRecDepth 100000 in
theorem c_A_order (l : Launch) (dC : Nat → ClassId) (dI : Nat → Nat → Nat) (cI cL : ClassId) (aA : Nat) (w : Int32) (sc : Int32) (li : Int32) (ar : Nat) (ak : Nat) (r : Nat → Int64) (kk : Nat → Int32) (sz : Nat) : Met l y_A_order w_A_order ({ frames := 3, cells := 0, slots := 0, locals := 70 }) (wr_P (dC, dI) cI cL [(aA, .inr (0, [.int w, .int sc, .int li, .ref ar, .ref ak])), (ar, .inl (cL, 81, .inr (.inl r))), (ak, .inl (cI, 81, .inl kk))] sz [.ref aA]) (wr_v (dC, dI) (va_A [(aA, .inr (0, [.int w, .int sc, .int li, .ref ar, .ref ak])), (ar, .inl (cL, 81, .inr (.inl r))), (ak, .inl (cI, 81, .inl kk))] sz) [(aA, .inr (0, [.int w, .int sc, .int li, .ref ar, .ref ak])), (ar, .inl (cL, 81, .inr (.inl (pu_ord (j_axK w sc li) r 40)))), (ak, .inl (cI, 81, .inl (j_rk (pu_ord (j_axK w sc li) r 40) kk 81)))]) 0 0 (va_A [(aA, .inr (0, [.int w, .int sc, .int li, .ref ar, .ref ak])), (ar, .inl (cL, 81, .inr (.inl r))), (ak, .inl (cI, 81, .inl kk))] sz) := by
  refine Met.ofW (cc := b_A_order) (maxL := 3) (ret := none) (by decide) rfl ?_
  intro p e s m args below meth c s₁ B hml hv
  obtain ⟨rfl, hsz, hP, hM, hD0⟩ := hv
  have hx := B.exec
  have hb := B.bytes
  have hr := B.returns
  have hts := atoms_spec (ws := w_A_order) B.pre
  have hown : s.vm.findClass "RoomEchoes$Axis" = some m.cls := findClass_of_methodNamed B.named
  have hlocks := B.notSynchronized
  have hK := hM.1
  subst hsz
  have hD := hD0.self (sz := s.heap.size)
  generalize hAe : va_A [(aA, .inr (0, [.int w, .int sc, .int li, .ref ar, .ref ak])), (ar, .inl (cL, 81, .inr (.inl r))), (ak, .inl (cI, 81, .inl kk))] s.heap.size = A at hD ⊢
  have hA : ∀ q : Nat, s.heap.size ≤ q → A q := fun q h => by rw [← hAe]; exact Or.inr h
  have hS : va_S A s.heap s.heap [] := va_S.rf
  have hP : va_P (dC, dI) vwCl [(aA, .inr (0, [.int w, .int sc, .int li, .ref ar, .ref ak])), (ar, .inl (cL, 81, .inr (.inl r))), (ak, .inl (cI, 81, .inl kk))] s.heap := hP
  have hl := lv_entry ([.ref aA]) (n := 3) (Nat.le_of_ble_eq_true rfl)
  rw [lg_entry_eq]
  generalize (lg_sl ([.ref aA]) ++ List.replicate (3 - (lg_sl ([.ref aA])).length) Slot.unset).toArray = ls at hl ⊢
  have hl : lv_has ls 3 [(0, .ref aA)] := hl
  refine lv_aload_n hx hb d_A_order_0 rfl (lv_at hl 0 rfl) ?_
  refine lv_iconst (v := 0) hx hb d_A_order_1 (by decide) ?_
  refine tp_i (Int32.ofInt 0) rfl ?_
  refine lv_iconst (v := 0) hx hb d_A_order_2 (by decide) ?_
  have hPc := hP.sub (ws' := [(aA, .inr (0, [.int w, .int sc, .int li, .ref ar, .ref ak])), (ar, .inl (cL, 81, .inr (.inl r)))]) [0, 1] rfl
  have hDc := hD.sub (ws' := [(aA, .inr (0, [.int w, .int sc, .int li, .ref ar, .ref ak])), (ar, .inl (cL, 81, .inr (.inl r)))]) [0, 1] (by decide) rfl
  refine wr_cv (wr := [(ak, .inl (cI, 81, .inl kk))]) (w1 := [(aA, .inr (0, [.int w, .int sc, .int li, .ref ar, .ref ak])), (ar, .inl (cL, 81, .inr (.inl (pu_ins (j_R_withNumberBelow (j_A_squareTo w sc li (Int32.ofInt 0)) (Int32.ofInt 0)) 0 r))))]) hP hD hS hA [0, 1] [2] rfl rfl (by decide) (by decide) (va_runV (As := [.int (Int32.ofInt 0), .int 0]) (rest := []) ⟨hx, hb, hml, hown, hts⟩ (c_A_insert l dC dI cI cL aA w sc li ar ak r (Int32.ofInt 0) 0 _ (by omega)) (cwV 2 hts (gi_V mw293 mw290 mw292 mw7 mw32) rfl rfl rfl (by decide +kernel) ⟨Nat.le_of_ble_eq_true rfl, Nat.le_of_ble_eq_true rfl⟩) (wr_V hM hPc hDc rfl rfl rfl) rfl rfl hl.1 rfl (lv_room (Nat.le_of_ble_eq_true rfl)) d_A_order_3 ⟨Nat.le_of_ble_eq_true rfl, Nat.le_of_ble_eq_true rfl⟩) (fun H locs hP hD hS => ?_)
  have hP := hP.sub (ws' := [(aA, .inr (0, [.int w, .int sc, .int li, .ref ar, .ref ak])), (ar, .inl (cL, 81, .inr (.inl (pu_ins (j_R_withNumberBelow (j_A_squareTo w sc li (Int32.ofInt 0)) (Int32.ofInt 0)) 0 r)))), (ak, .inl (cI, 81, .inl kk))]) [1, 2, 0] rfl
  have hD := hD.sub (ws' := [(aA, .inr (0, [.int w, .int sc, .int li, .ref ar, .ref ak])), (ar, .inl (cL, 81, .inr (.inl (pu_ins (j_R_withNumberBelow (j_A_squareTo w sc li (Int32.ofInt 0)) (Int32.ofInt 0)) 0 r)))), (ak, .inl (cI, 81, .inl kk))]) [1, 2, 0] (by decide) rfl
  refine lv_iconst (v := 1) hx hb d_A_order_6 (by decide) ?_
  refine lv_istore_n (lv' := [(1, .int 1), (0, .ref aA)]) hx hb d_A_order_7 rfl hl (by decide) rfl (fun ls hl => ?_)
  have lp : ∀ (n9 : Nat) (a : Nat), 40 < a + n9 → a ≤ 40 → ∀ (H : Heap) (locs : List Loc), va_P (dC, dI) vwCl [(aA, .inr (0, [.int w, .int sc, .int li, .ref ar, .ref ak])), (ar, .inl (cL, 81, .inr (.inl (pu_ord (j_axK w sc li) r a)))), (ak, .inl (cI, 81, .inl kk))] H → va_D A [(aA, .inr (0, [.int w, .int sc, .int li, .ref ar, .ref ak])), (ar, .inl (cL, 81, .inr (.inl (pu_ord (j_axK w sc li) r a)))), (ak, .inl (cI, 81, .inl kk))] → va_S A s.heap H locs → ∀ (ls : Array Slot), lv_has ls 3 [(1, .int (nI (a + 1))), (0, .ref aA)] → W p l e (headSpec w_A_order ({ frames := 3, cells := 0, slots := 0, locals := 70 })).room s m ([.ref aA] : List Value).toArray below meth c H locs 0 0 (MQ below (wr_v (dC, dI) A [(aA, .inr (0, [.int w, .int sc, .int li, .ref ar, .ref ak])), (ar, .inl (cL, 81, .inr (.inl (pu_ord (j_axK w sc li) r 40)))), (ak, .inl (cI, 81, .inl (j_rk (pu_ord (j_axK w sc li) r 40) kk 81)))]) ([.ref aA] : List Value).toArray s 0 0 A) (F0 m 8 ls []) := by
    intro n9
    induction n9 with
    | zero => intro a hn ha H locs hP hD hS ls hl; omega
    | succ n9 ih =>
      intro a hn ha H locs hP hD hS ls hl
      refine lv_iload_n hx hb d_A_order_8 rfl (lv_at hl 0 rfl) ?_
      refine lv_bipush (v := 40) hx hb d_A_order_9 (by decide) ?_
      refine lv_icmp_gt (tgt := 39) hx hb d_A_order_11 (by decide) (fun c_11 => ?_) (fun c_11 => ?_)
      · skip
        refine lv_iconst (v := 0) hx hb d_A_order_39 (by decide) ?_
        refine lv_istore_n (lv' := [(1, .int 0), (0, .ref aA)]) hx hb d_A_order_40 rfl hl (by decide) rfl (fun ls hl => ?_)
        have a40 : a = 40 := by have h9 : nI 40 < nI (a + 1) := c_11; rw [nI_ltI (by omega) (by omega)] at h9; omega
        rw [a40] at hP hD
        have lq : ∀ (n9 : Nat) (i : Nat), 81 < i + n9 → i ≤ 81 → ∀ (H : Heap) (locs : List Loc), va_P (dC, dI) vwCl [(aA, .inr (0, [.int w, .int sc, .int li, .ref ar, .ref ak])), (ar, .inl (cL, 81, .inr (.inl (pu_ord (j_axK w sc li) r 40)))), (ak, .inl (cI, 81, .inl (j_rk (pu_ord (j_axK w sc li) r 40) kk i)))] H → va_D A [(aA, .inr (0, [.int w, .int sc, .int li, .ref ar, .ref ak])), (ar, .inl (cL, 81, .inr (.inl (pu_ord (j_axK w sc li) r 40)))), (ak, .inl (cI, 81, .inl (j_rk (pu_ord (j_axK w sc li) r 40) kk i)))] → va_S A s.heap H locs → ∀ (ls : Array Slot), lv_has ls 3 [(1, .int (nI i)), (0, .ref aA)] → W p l e (headSpec w_A_order ({ frames := 3, cells := 0, slots := 0, locals := 70 })).room s m ([.ref aA] : List Value).toArray below meth c H locs 0 0 (MQ below (wr_v (dC, dI) A [(aA, .inr (0, [.int w, .int sc, .int li, .ref ar, .ref ak])), (ar, .inl (cL, 81, .inr (.inl (pu_ord (j_axK w sc li) r 40)))), (ak, .inl (cI, 81, .inl (j_rk (pu_ord (j_axK w sc li) r 40) kk 81)))]) ([.ref aA] : List Value).toArray s 0 0 A) (F0 m 41 ls []) := by
          intro n9
          induction n9 with
          | zero => intro i hn hi H locs hP hD hS ls hl; omega
          | succ n9 ih =>
            intro i hn hi H locs hP hD hS ls hl
            refine lv_iload_n hx hb d_A_order_41 rfl (lv_at hl 0 rfl) ?_
            refine lv_bipush (v := 81) hx hb d_A_order_42 (by decide) ?_
            refine lv_icmp_ge (tgt := 79) hx hb d_A_order_44 (by decide) (fun c_44 => ?_) (fun c_44 => ?_)
            · skip
              have e9 : i = 81 := by have h9 : nI 81 ≤ nI i := c_44; rw [nI_leI (by omega) (by omega)] at h9; omega
              rw [e9] at hP hD
              have hP9 := hP
              have hD9 := hD
              exact W.vret hx hb hr (fun t ht hW => ⟨⟨(), rfl, trivial, by rw [ht]; exact hP9, hD9⟩, hS.F ht⟩) hS.2.2 d_A_order_79
            · skip
              have i5 : i < 81 := by have h9 : ¬ nI 81 ≤ nI i := c_44; rw [nI_leI (by omega) (by omega)] at h9; omega
              refine lv_aload_n hx hb d_A_order_47 rfl (lv_at hl 1 rfl) ?_
              refine lv_iload_n hx hb d_A_order_48 rfl (lv_at hl 0 rfl) ?_
              have hPc := hP.sub (ws' := [(aA, .inr (0, [.int w, .int sc, .int li, .ref ar, .ref ak])), (ar, .inl (cL, 81, .inr (.inl (pu_ord (j_axK w sc li) r 40))))]) [0, 1] rfl
              refine rd_c (va_runV (As := [.int (nI i)]) (rest := []) ⟨hx, hb, hml, hown, hts⟩ (c_A_numberAt l dC dI cI cL aA w sc li ar ak (pu_ord (j_axK w sc li) r 40) (nI i)) (cwV 1 hts (gi_V mw301 mw298 mw299 mw300 mw32) rfl rfl rfl (by decide +kernel) ⟨Nat.le_of_ble_eq_true rfl, Nat.le_of_ble_eq_true rfl⟩) (rd_V hM hPc rfl rfl rfl) rfl rfl hl.1 rfl (lv_room (Nat.le_of_ble_eq_true rfl)) d_A_order_49 ⟨Nat.le_of_ble_eq_true rfl, Nat.le_of_ble_eq_true rfl⟩) ?_
              refine lv_bipush (v := 40) hx hb d_A_order_52 (by decide) ?_
              refine lv_iadd hx hb d_A_order_54 ?_
              refine lv_istore_n (lv' := [(2, .int ((j_A_numberAt (pu_ord (j_axK w sc li) r 40) (nI i)) + 40)), (1, .int (nI i)), (0, .ref aA)]) hx hb d_A_order_55 rfl hl (by decide) rfl (fun ls hl => ?_)
              refine lv_iload_n hx hb d_A_order_56 rfl (lv_at hl 0 rfl) ?_
              refine lv_if_lt (tgt := 73) hx hb d_A_order_57 (by decide) (fun c_57 => ?_) (fun c_57 => ?_)
              · skip
                refine lv_iinc (v := nI (i + 1)) (lv' := [(1, .int (nI (i + 1))), (2, .int ((j_A_numberAt (pu_ord (j_axK w sc li) r 40) (nI i)) + 40)), (0, .ref aA)]) hx hb d_A_order_73 hl (k := 1) rfl (nI_succ _).symm (by decide) rfl (fun ls hl => ?_)
                refine lv_goto (tgt := 41) hx hb d_A_order_76 (by decide) ?_
                have e9 : j_rk (pu_ord (j_axK w sc li) r 40) kk i = j_rk (pu_ord (j_axK w sc li) r 40) kk (i + 1) := by rw [j_rk_s, if_pos c_57]
                rw [e9] at hP hD
                exact ih (i + 1) (by omega) (by omega) _ _ hP hD hS ls (lv_sub hl [0, 2] rfl)
              · skip
                refine lv_iload_n hx hb d_A_order_60 rfl (lv_at hl 0 rfl) ?_
                refine lv_bipush (v := 81) hx hb d_A_order_61 (by decide) ?_
                refine lv_icmp_ge (tgt := 73) hx hb d_A_order_63 (by decide) (fun c_63 => ?_) (fun c_63 => ?_)
                · skip
                  refine lv_iinc (v := nI (i + 1)) (lv' := [(1, .int (nI (i + 1))), (2, .int ((j_A_numberAt (pu_ord (j_axK w sc li) r 40) (nI i)) + 40)), (0, .ref aA)]) hx hb d_A_order_73 hl (k := 1) rfl (nI_succ _).symm (by decide) rfl (fun ls hl => ?_)
                  refine lv_goto (tgt := 41) hx hb d_A_order_76 (by decide) ?_
                  have e9 : j_rk (pu_ord (j_axK w sc li) r 40) kk i = j_rk (pu_ord (j_axK w sc li) r 40) kk (i + 1) := by rw [j_rk_s, if_neg c_57, if_pos c_63]
                  rw [e9] at hP hD
                  exact ih (i + 1) (by omega) (by omega) _ _ hP hD hS ls (lv_sub hl [0, 2] rfl)
                · skip
                  refine lv_aload_n hx hb d_A_order_66 rfl (lv_at hl 2 rfl) ?_
                  refine va_get (D := (dC, dI)) (ci := 0) (v := .ref ak) (C := "RoomEchoes$Axis") (T := FT_A) (N := 5) hx hb hts (hi_ in_A) hown hK hP 0 rfl rfl 4 (by decide) (ht_ hts mw84) (fun _ h9 => h9) rfl d_A_order_67 ?_
                  refine lv_iload_n hx hb d_A_order_70 rfl (lv_at hl 0 rfl) ?_
                  refine lv_iload_n hx hb d_A_order_71 rfl (lv_at hl 1 rfl) ?_
                  refine va_iast hx hb hK hP hD hS 2 0 rfl rfl (in_ge c_57 c_63 rfl) d_A_order_72 (fun H locs hP hD hS => ?_)
                  have hP : va_P (dC, dI) vwCl [(aA, .inr (0, [.int w, .int sc, .int li, .ref ar, .ref ak])), (ar, .inl (cL, 81, .inr (.inl (pu_ord (j_axK w sc li) r 40)))), (ak, .inl (cI, 81, .inl (upd (j_rk (pu_ord (j_axK w sc li) r 40) kk i) ((j_A_numberAt (pu_ord (j_axK w sc li) r 40) (nI i)) + 40).toNatClampNeg (nI i))))] H := hP
                  have hD : va_D A [(aA, .inr (0, [.int w, .int sc, .int li, .ref ar, .ref ak])), (ar, .inl (cL, 81, .inr (.inl (pu_ord (j_axK w sc li) r 40)))), (ak, .inl (cI, 81, .inl (upd (j_rk (pu_ord (j_axK w sc li) r 40) kk i) ((j_A_numberAt (pu_ord (j_axK w sc li) r 40) (nI i)) + 40).toNatClampNeg (nI i))))] := hD
                  refine lv_iinc (v := nI (i + 1)) (lv' := [(1, .int (nI (i + 1))), (2, .int ((j_A_numberAt (pu_ord (j_axK w sc li) r 40) (nI i)) + 40)), (0, .ref aA)]) hx hb d_A_order_73 hl (k := 1) rfl (nI_succ _).symm (by decide) rfl (fun ls hl => ?_)
                  refine lv_goto (tgt := 41) hx hb d_A_order_76 (by decide) ?_
                  have e9 : upd (j_rk (pu_ord (j_axK w sc li) r 40) kk i) ((j_A_numberAt (pu_ord (j_axK w sc li) r 40) (nI i)) + 40).toNatClampNeg (nI i) = j_rk (pu_ord (j_axK w sc li) r 40) kk (i + 1) := by rw [j_rk_s, if_neg c_57, if_neg c_63]
                  rw [e9] at hP hD
                  exact ih (i + 1) (by omega) (by omega) _ _ hP hD hS ls (lv_sub hl [0, 2] rfl)
        exact lq 82 0 (by omega) (by omega) _ _ hP hD hS ls (lv_sub hl [0, 1] rfl)
      · skip
        have a39 : a < 40 := by have h9 : ¬ nI 40 < nI (a + 1) := c_11; rw [nI_ltI (by omega) (by omega)] at h9; omega
        refine lv_aload_n hx hb d_A_order_14 rfl (lv_at hl 1 rfl) ?_
        refine lv_iload_n hx hb d_A_order_15 rfl (lv_at hl 0 rfl) ?_
        refine lv_ineg hx hb d_A_order_16 ?_
        refine tp_i (Int32.ofInt (-((a : Int) + 1))) (nu_neg a) ?_
        refine lv_iconst (v := 2) hx hb d_A_order_17 (by decide) ?_
        refine lv_iload_n hx hb d_A_order_18 rfl (lv_at hl 0 rfl) ?_
        refine lv_imul hx hb d_A_order_19 ?_
        refine lv_iconst (v := 1) hx hb d_A_order_20 (by decide) ?_
        refine lv_isub hx hb d_A_order_21 ?_
        refine tp_i (nI (2 * a + 1)) (nu_2m a) ?_
        have hPc := hP.sub (ws' := [(aA, .inr (0, [.int w, .int sc, .int li, .ref ar, .ref ak])), (ar, .inl (cL, 81, .inr (.inl (pu_ord (j_axK w sc li) r a))))]) [0, 1] rfl
        have hDc := hD.sub (ws' := [(aA, .inr (0, [.int w, .int sc, .int li, .ref ar, .ref ak])), (ar, .inl (cL, 81, .inr (.inl (pu_ord (j_axK w sc li) r a))))]) [0, 1] (by decide) rfl
        refine wr_cv (wr := [(ak, .inl (cI, 81, .inl kk))]) (w1 := [(aA, .inr (0, [.int w, .int sc, .int li, .ref ar, .ref ak])), (ar, .inl (cL, 81, .inr (.inl (pu_ins (j_R_withNumberBelow (j_A_squareTo w sc li (Int32.ofInt (-((a : Int) + 1)))) (Int32.ofInt (-((a : Int) + 1)))) (2 * a + 1) (pu_ord (j_axK w sc li) r a)))))]) hP hD hS hA [0, 1] [2] rfl rfl (by decide) (by decide) (va_runV (As := [.int (Int32.ofInt (-((a : Int) + 1))), .int (nI (2 * a + 1))]) (rest := []) ⟨hx, hb, hml, hown, hts⟩ (c_A_insert l dC dI cI cL aA w sc li ar ak (pu_ord (j_axK w sc li) r a) (Int32.ofInt (-((a : Int) + 1))) (2 * a + 1) _ (by omega)) (cwV 2 hts (gi_V mw293 mw290 mw292 mw7 mw32) rfl rfl rfl (by decide +kernel) ⟨Nat.le_of_ble_eq_true rfl, Nat.le_of_ble_eq_true rfl⟩) (wr_V hM hPc hDc rfl rfl rfl) rfl rfl hl.1 rfl (lv_room (Nat.le_of_ble_eq_true rfl)) d_A_order_22 ⟨Nat.le_of_ble_eq_true rfl, Nat.le_of_ble_eq_true rfl⟩) (fun H locs hP hD hS => ?_)
        have hP := hP.sub (ws' := [(aA, .inr (0, [.int w, .int sc, .int li, .ref ar, .ref ak])), (ar, .inl (cL, 81, .inr (.inl (pu_ins (j_R_withNumberBelow (j_A_squareTo w sc li (Int32.ofInt (-((a : Int) + 1)))) (Int32.ofInt (-((a : Int) + 1)))) (2 * a + 1) (pu_ord (j_axK w sc li) r a))))), (ak, .inl (cI, 81, .inl kk))]) [1, 2, 0] rfl
        have hD := hD.sub (ws' := [(aA, .inr (0, [.int w, .int sc, .int li, .ref ar, .ref ak])), (ar, .inl (cL, 81, .inr (.inl (pu_ins (j_R_withNumberBelow (j_A_squareTo w sc li (Int32.ofInt (-((a : Int) + 1)))) (Int32.ofInt (-((a : Int) + 1)))) (2 * a + 1) (pu_ord (j_axK w sc li) r a))))), (ak, .inl (cI, 81, .inl kk))]) [1, 2, 0] (by decide) rfl
        refine lv_aload_n hx hb d_A_order_25 rfl (lv_at hl 1 rfl) ?_
        refine lv_iload_n hx hb d_A_order_26 rfl (lv_at hl 0 rfl) ?_
        refine tp_i (Int32.ofInt ((a : Int) + 1)) (nu_pos a) ?_
        refine lv_iconst (v := 2) hx hb d_A_order_27 (by decide) ?_
        refine lv_iload_n hx hb d_A_order_28 rfl (lv_at hl 0 rfl) ?_
        refine lv_imul hx hb d_A_order_29 ?_
        refine tp_i (nI (2 * a + 2)) (nu_2 a) ?_
        have hPc := hP.sub (ws' := [(aA, .inr (0, [.int w, .int sc, .int li, .ref ar, .ref ak])), (ar, .inl (cL, 81, .inr (.inl (pu_ins (j_R_withNumberBelow (j_A_squareTo w sc li (Int32.ofInt (-((a : Int) + 1)))) (Int32.ofInt (-((a : Int) + 1)))) (2 * a + 1) (pu_ord (j_axK w sc li) r a)))))]) [0, 1] rfl
        have hDc := hD.sub (ws' := [(aA, .inr (0, [.int w, .int sc, .int li, .ref ar, .ref ak])), (ar, .inl (cL, 81, .inr (.inl (pu_ins (j_R_withNumberBelow (j_A_squareTo w sc li (Int32.ofInt (-((a : Int) + 1)))) (Int32.ofInt (-((a : Int) + 1)))) (2 * a + 1) (pu_ord (j_axK w sc li) r a)))))]) [0, 1] (by decide) rfl
        refine wr_cv (wr := [(ak, .inl (cI, 81, .inl kk))]) (w1 := [(aA, .inr (0, [.int w, .int sc, .int li, .ref ar, .ref ak])), (ar, .inl (cL, 81, .inr (.inl (pu_ins (j_R_withNumberBelow (j_A_squareTo w sc li (Int32.ofInt ((a : Int) + 1))) (Int32.ofInt ((a : Int) + 1))) (2 * a + 2) (pu_ins (j_R_withNumberBelow (j_A_squareTo w sc li (Int32.ofInt (-((a : Int) + 1)))) (Int32.ofInt (-((a : Int) + 1)))) (2 * a + 1) (pu_ord (j_axK w sc li) r a))))))]) hP hD hS hA [0, 1] [2] rfl rfl (by decide) (by decide) (va_runV (As := [.int (Int32.ofInt ((a : Int) + 1)), .int (nI (2 * a + 2))]) (rest := []) ⟨hx, hb, hml, hown, hts⟩ (c_A_insert l dC dI cI cL aA w sc li ar ak (pu_ins (j_R_withNumberBelow (j_A_squareTo w sc li (Int32.ofInt (-((a : Int) + 1)))) (Int32.ofInt (-((a : Int) + 1)))) (2 * a + 1) (pu_ord (j_axK w sc li) r a)) (Int32.ofInt ((a : Int) + 1)) (2 * a + 2) _ (by omega)) (cwV 2 hts (gi_V mw293 mw290 mw292 mw7 mw32) rfl rfl rfl (by decide +kernel) ⟨Nat.le_of_ble_eq_true rfl, Nat.le_of_ble_eq_true rfl⟩) (wr_V hM hPc hDc rfl rfl rfl) rfl rfl hl.1 rfl (lv_room (Nat.le_of_ble_eq_true rfl)) d_A_order_30 ⟨Nat.le_of_ble_eq_true rfl, Nat.le_of_ble_eq_true rfl⟩) (fun H locs hP hD hS => ?_)
        have hP := hP.sub (ws' := [(aA, .inr (0, [.int w, .int sc, .int li, .ref ar, .ref ak])), (ar, .inl (cL, 81, .inr (.inl (pu_ins (j_R_withNumberBelow (j_A_squareTo w sc li (Int32.ofInt ((a : Int) + 1))) (Int32.ofInt ((a : Int) + 1))) (2 * a + 2) (pu_ins (j_R_withNumberBelow (j_A_squareTo w sc li (Int32.ofInt (-((a : Int) + 1)))) (Int32.ofInt (-((a : Int) + 1)))) (2 * a + 1) (pu_ord (j_axK w sc li) r a)))))), (ak, .inl (cI, 81, .inl kk))]) [1, 2, 0] rfl
        have hD := hD.sub (ws' := [(aA, .inr (0, [.int w, .int sc, .int li, .ref ar, .ref ak])), (ar, .inl (cL, 81, .inr (.inl (pu_ins (j_R_withNumberBelow (j_A_squareTo w sc li (Int32.ofInt ((a : Int) + 1))) (Int32.ofInt ((a : Int) + 1))) (2 * a + 2) (pu_ins (j_R_withNumberBelow (j_A_squareTo w sc li (Int32.ofInt (-((a : Int) + 1)))) (Int32.ofInt (-((a : Int) + 1)))) (2 * a + 1) (pu_ord (j_axK w sc li) r a)))))), (ak, .inl (cI, 81, .inl kk))]) [1, 2, 0] (by decide) rfl
        refine lv_iinc (v := nI (a + 1 + 1)) (lv' := [(1, .int (nI (a + 1 + 1))), (0, .ref aA)]) hx hb d_A_order_33 hl (k := 0) rfl (nI_succ _).symm (by decide) rfl (fun ls hl => ?_)
        refine lv_goto (tgt := 8) hx hb d_A_order_36 (by decide) ?_
        have hP : va_P (dC, dI) vwCl [(aA, .inr (0, [.int w, .int sc, .int li, .ref ar, .ref ak])), (ar, .inl (cL, 81, .inr (.inl (pu_ord (j_axK w sc li) r (a + 1))))), (ak, .inl (cI, 81, .inl kk))] H := hP
        have hD : va_D A [(aA, .inr (0, [.int w, .int sc, .int li, .ref ar, .ref ak])), (ar, .inl (cL, 81, .inr (.inl (pu_ord (j_axK w sc li) r (a + 1))))), (ak, .inl (cI, 81, .inl kk))] := hD
        exact ih (a + 1) (by omega) (by omega) _ _ hP hD hS ls (lv_sub hl [0, 1] rfl)
  exact lp 41 0 (by omega) (by omega) _ _ hP hD hS ls (lv_sub hl [0, 1] rfl)
end
section
theorem nu_half {j : Nat} (h : j < 2147483648) : nI j / 2 = nI (j / 2) := by
  rw [show (2 : Int32) = nI 2 from rfl]
  exact pk_div h (by decide) (by decide)
theorem nu_21 (t : Nat) : 2 * nI t + 1 = nI (2 * t + 1) := by
  rw [show (2 : Int32) = nI 2 from rfl, pk_mul, nI_1]
theorem fu_0 {key : Int64} {d k : Nat} {r res : Nat → Int64} (hk : k < 2147483648) (h : nI k ≤ 0) (hj : pu_up key (d + 1) k r = res) : vp_updL r k key = res := by
  have : k = 0 := by
    rw [Int32.le_iff_toInt_le, nI_toInt hk] at h
    have h0 : (0 : Int32).toInt = 0 := rfl
    omega
  rw [← hj]
  exact (if_neg (by omega)).symm
theorem fu_1 {key : Int64} {d k : Nat} {r res : Nat → Int64} (h : r (k / 2) ≤ key) (hj : pu_up key (d + 1) (k + 1) r = res) : vp_updL r (k + 1) key = res := by
  rw [← hj]
  exact (if_neg (fun q => by have q2 : key < r (k / 2) := q.2; rw [pu_lt] at q2; rw [pu_le] at h; omega)).symm
theorem fu_2 {key : Int64} {d k : Nat} {r res : Nat → Int64} (h : ¬ r (k / 2) ≤ key) (hj : pu_up key (d + 1) (k + 1) r = res) : pu_up key d (k / 2) (vp_updL r (k + 1) (r (k / 2))) = res := by
  rw [← hj]
  exact (if_pos (c := 0 < k + 1 ∧ key < r ((k + 1 - 1) / 2)) ⟨by omega, pu_nle h⟩).symm

set_option maxHeartbeats 4000000 in
set_option maxRecDepth 100000 in
theorem c_F_add (l : Launch) (dC : Nat → ClassId) (dI : Nat → Nat → Nat) (cI cL : ClassId) (aF : Nat) (ak : Nat) (n : Nat) (f : Nat → Int64) (key : Int64) (sz : Nat) (hn : n < 1001) : Met l y_F_add w_F_add ({ frames := 0, cells := 0, slots := 0, locals := 0 }) (wr_P (dC, dI) cI cL [(aF, .inr (1, [.ref ak, .int (nI n)])), (ak, .inl (cL, 1001, .inr (.inl f)))] sz [.ref aF, .long key]) (wr_v (dC, dI) (va_A [(aF, .inr (1, [.ref ak, .int (nI n)])), (ak, .inl (cL, 1001, .inr (.inl f)))] sz) [(aF, .inr (1, [.ref ak, .int (nI (n + 1))])), (ak, .inl (cL, 1001, .inr (.inl (pu_up key (n + 1) n f))))]) 0 0 (va_A [(aF, .inr (1, [.ref ak, .int (nI n)])), (ak, .inl (cL, 1001, .inr (.inl f)))] sz) := by
  refine Met.ofW (cc := b_F_add) (maxL := 4) (ret := none) (by decide) rfl ?_
  intro p e s m args below meth c s₁ B hml hv
  obtain ⟨rfl, hsz, hP, hM, hD0⟩ := hv
  have hx := B.exec
  have hb := B.bytes
  have hr := B.returns
  have hts := atoms_spec (ws := w_F_add) B.pre
  have hown : s.vm.findClass "RoomEchoes$Frontier" = some m.cls := findClass_of_methodNamed B.named
  have hlocks := B.notSynchronized
  have hK := hM.1
  subst hsz
  have hD := hD0.self (sz := s.heap.size)
  generalize hAe : va_A [(aF, .inr (1, [.ref ak, .int (nI n)])), (ak, .inl (cL, 1001, .inr (.inl f)))] s.heap.size = A at hD ⊢
  have hA : ∀ q : Nat, s.heap.size ≤ q → A q := fun q h => by rw [← hAe]; exact Or.inr h
  have hS : va_S A s.heap s.heap [] := va_S.rf
  have hP : va_P (dC, dI) vwCl [(aF, .inr (1, [.ref ak, .int (nI n)])), (ak, .inl (cL, 1001, .inr (.inl f)))] s.heap := hP
  have hl := lv_entry ([.ref aF, .long key]) (n := 4) (Nat.le_of_ble_eq_true rfl)
  rw [lg_entry_eq]
  generalize (lg_sl ([.ref aF, .long key]) ++ List.replicate (4 - (lg_sl ([.ref aF, .long key])).length) Slot.unset).toArray = ls at hl ⊢
  have hl : lv_has ls 4 [(0, .ref aF), (1, .long key)] := hl
  refine lv_aload_n hx hb d_F_add_0 rfl (lv_at hl 0 rfl) ?_
  refine va_get (D := (dC, dI)) (ci := 1) (v := .int (nI n)) (C := "RoomEchoes$Frontier") (T := FT_F) (N := 2) hx hb hts (hi_ in_F) hown hK hP 0 rfl rfl 1 (by decide) (ht_ hts mw54) (fun _ h9 => h9) rfl d_F_add_1 ?_
  refine lv_aload_n hx hb d_F_add_4 rfl (lv_at hl 0 rfl) ?_
  refine va_get (D := (dC, dI)) (ci := 1) (v := .ref ak) (C := "RoomEchoes$Frontier") (T := FT_F) (N := 2) hx hb hts (hi_ in_F) hown hK hP 0 rfl rfl 0 (by decide) (ht_ hts mw53) (fun _ h9 => h9) rfl d_F_add_5 ?_
  refine va_alen (v := 1001) hx hb hK hP 1 1 rfl rfl rfl d_F_add_8 ?_
  refine lv_icmp_lt (tgt := 13) hx hb d_F_add_9 (by decide) (fun c_9 => ?_) (fun c_9 => ?_)
  · skip
    refine lv_aload_n hx hb d_F_add_13 rfl (lv_at hl 0 rfl) ?_
    refine va_get (D := (dC, dI)) (ci := 1) (v := .int (nI n)) (C := "RoomEchoes$Frontier") (T := FT_F) (N := 2) hx hb hts (hi_ in_F) hown hK hP 0 rfl rfl 1 (by decide) (ht_ hts mw54) (fun _ h9 => h9) rfl d_F_add_14 ?_
    refine lv_istore_n (lv' := [(3, .int (nI n)), (0, .ref aF), (1, .long key)]) hx hb d_F_add_17 rfl hl (by decide) rfl (fun ls hl => ?_)
    refine lv_aload_n hx hb d_F_add_18 rfl (lv_at hl 1 rfl) ?_
    refine lv_dup hx hb d_F_add_19 rfl ?_
    refine va_get (D := (dC, dI)) (ci := 1) (v := .int (nI n)) (C := "RoomEchoes$Frontier") (T := FT_F) (N := 2) hx hb hts (hi_ in_F) hown hK hP 0 rfl rfl 1 (by decide) (ht_ hts mw54) (fun _ h9 => h9) rfl d_F_add_20 ?_
    refine lv_iconst (v := 1) hx hb d_F_add_23 (by decide) ?_
    refine lv_iadd hx hb d_F_add_24 ?_
    refine tp_i (nI (n + 1)) (nI_1 n) ?_
    refine va_put (D := (dC, dI)) (ci := 1) (v := .int (nI (n + 1))) (ty := .int) (C := "RoomEchoes$Frontier") (T := FT_F) (N := 2) hx hb hts (hi_ in_F) ty_F tyo_F nm_F hown hK hP hD hS 0 rfl rfl 1 (by decide) (ht_ hts mw54) (fun _ h9 => h9) rfl (by decide +kernel) rfl rfl (Nat.le_of_ble_eq_true rfl) d_F_add_25 (fun H locs hP hD hS => ?_)
    have hP : va_P (dC, dI) vwCl [(aF, .inr (1, [.ref ak, .int (nI (n + 1))])), (ak, .inl (cL, 1001, .inr (.inl f)))] H := hP
    have hD : va_D A [(aF, .inr (1, [.ref ak, .int (nI (n + 1))])), (ak, .inl (cL, 1001, .inr (.inl f)))] := hD
    have lp : ∀ (n9 : Nat) (t : Nat) (g : Nat → Int64), t < n9 → t ≤ n → pu_up key n9 t g = pu_up key (n + 1) n f → ∀ (H : Heap) (locs : List Loc), va_P (dC, dI) vwCl [(aF, .inr (1, [.ref ak, .int (nI (n + 1))])), (ak, .inl (cL, 1001, .inr (.inl g)))] H → va_D A [(aF, .inr (1, [.ref ak, .int (nI (n + 1))])), (ak, .inl (cL, 1001, .inr (.inl g)))] → va_S A s.heap H locs → ∀ (ls : Array Slot), lv_has ls 4 [(3, .int (nI t)), (0, .ref aF), (1, .long key)] → W p l e (headSpec w_F_add ({ frames := 0, cells := 0, slots := 0, locals := 0 })).room s m ([.ref aF, .long key] : List Value).toArray below meth c H locs 0 0 (MQ below (wr_v (dC, dI) A [(aF, .inr (1, [.ref ak, .int (nI (n + 1))])), (ak, .inl (cL, 1001, .inr (.inl (pu_up key (n + 1) n f))))]) ([.ref aF, .long key] : List Value).toArray s 0 0 A) (F0 m 28 ls []) := by
      intro n9
      induction n9 with
      | zero => intro t g ht9 htn hj H locs hP hD hS ls hl; omega
      | succ n9 ih =>
        intro t g ht9 htn hj H locs hP hD hS ls hl
        refine lv_iload_n hx hb d_F_add_28 rfl (lv_at hl 0 rfl) ?_
        refine lv_if_le (tgt := 72) hx hb d_F_add_29 (by decide) (fun c_29 => ?_) (fun c_29 => ?_)
        · skip
          refine lv_aload_n hx hb d_F_add_72 rfl (lv_at hl 1 rfl) ?_
          refine va_get (D := (dC, dI)) (ci := 1) (v := .ref ak) (C := "RoomEchoes$Frontier") (T := FT_F) (N := 2) hx hb hts (hi_ in_F) hown hK hP 0 rfl rfl 0 (by decide) (ht_ hts mw53) (fun _ h9 => h9) rfl d_F_add_73 ?_
          refine lv_iload_n hx hb d_F_add_76 rfl (lv_at hl 0 rfl) ?_
          refine lv_lload_n hx hb d_F_add_77 rfl (lv_at hl 2 rfl) ?_
          refine va_last hx hb hK hP hD hS 1 1 rfl rfl (vp_in_nI (by omega) (by omega)) d_F_add_78 (fun H locs hP hD hS => ?_)
          rw [nI_clamp (n := t) (by omega)] at hP hD
          have hP : va_P (dC, dI) vwCl [(aF, .inr (1, [.ref ak, .int (nI (n + 1))])), (ak, .inl (cL, 1001, .inr (.inl (vp_updL g t key))))] H := hP
          have hD : va_D A [(aF, .inr (1, [.ref ak, .int (nI (n + 1))])), (ak, .inl (cL, 1001, .inr (.inl (vp_updL g t key))))] := hD
          have e9 : vp_updL g t key = pu_up key (n + 1) n f := fu_0 (by omega) c_29 hj
          rw [e9] at hP hD
          have hP9 := hP
          have hD9 := hD
          exact W.vret hx hb hr (fun t ht hW => ⟨⟨(), rfl, trivial, by rw [ht]; exact hP9, hD9⟩, hS.F ht⟩) hS.2.2 d_F_add_79
        · skip
          obtain ⟨j, ej⟩ : ∃ j, t = j + 1 := ⟨t - 1, by have : t ≠ 0 := fun q => c_29 (by rw [q]; decide); omega⟩
          rw [ej] at hl hj
          refine lv_aload_n hx hb d_F_add_32 rfl (lv_at hl 1 rfl) ?_
          refine va_get (D := (dC, dI)) (ci := 1) (v := .ref ak) (C := "RoomEchoes$Frontier") (T := FT_F) (N := 2) hx hb hts (hi_ in_F) hown hK hP 0 rfl rfl 0 (by decide) (ht_ hts mw53) (fun _ h9 => h9) rfl d_F_add_33 ?_
          refine lv_iload_n hx hb d_F_add_36 rfl (lv_at hl 0 rfl) ?_
          refine lv_iconst (v := 1) hx hb d_F_add_37 (by decide) ?_
          refine lv_isub hx hb d_F_add_38 ?_
          refine tp_i (nI j) (nI_pred j) ?_
          refine lv_iconst (v := 2) hx hb d_F_add_39 (by decide) ?_
          refine lv_idiv hx hb d_F_add_40 (by decide) ?_
          refine tp_i (nI (j / 2)) (nu_half (by omega)) ?_
          refine va_lald hx hb hK hP 1 1 rfl rfl (vp_in_nI (by omega) (by omega)) d_F_add_41 ?_
          refine tp_l (g (j / 2)) (by rw [nI_clamp (by omega)]) ?_
          refine lv_lload_n hx hb d_F_add_42 rfl (lv_at hl 2 rfl) ?_
          refine W.lcmp hx hb d_F_add_43 ?_
          refine lv_if_le (tgt := 72) hx hb d_F_add_44 (by decide) (fun c_44 => ?_) (fun c_44 => ?_)
          · rw [lg_cmp_le] at c_44
            refine lv_aload_n hx hb d_F_add_72 rfl (lv_at hl 1 rfl) ?_
            refine va_get (D := (dC, dI)) (ci := 1) (v := .ref ak) (C := "RoomEchoes$Frontier") (T := FT_F) (N := 2) hx hb hts (hi_ in_F) hown hK hP 0 rfl rfl 0 (by decide) (ht_ hts mw53) (fun _ h9 => h9) rfl d_F_add_73 ?_
            refine lv_iload_n hx hb d_F_add_76 rfl (lv_at hl 0 rfl) ?_
            refine lv_lload_n hx hb d_F_add_77 rfl (lv_at hl 2 rfl) ?_
            refine va_last hx hb hK hP hD hS 1 1 rfl rfl (vp_in_nI (by omega) (by omega)) d_F_add_78 (fun H locs hP hD hS => ?_)
            rw [nI_clamp (n := (j + 1)) (by omega)] at hP hD
            have hP : va_P (dC, dI) vwCl [(aF, .inr (1, [.ref ak, .int (nI (n + 1))])), (ak, .inl (cL, 1001, .inr (.inl (vp_updL g (j + 1) key))))] H := hP
            have hD : va_D A [(aF, .inr (1, [.ref ak, .int (nI (n + 1))])), (ak, .inl (cL, 1001, .inr (.inl (vp_updL g (j + 1) key))))] := hD
            have e9 : vp_updL g (j + 1) key = pu_up key (n + 1) n f := fu_1 c_44 hj
            rw [e9] at hP hD
            have hP9 := hP
            have hD9 := hD
            exact W.vret hx hb hr (fun t ht hW => ⟨⟨(), rfl, trivial, by rw [ht]; exact hP9, hD9⟩, hS.F ht⟩) hS.2.2 d_F_add_79
          · rw [lg_cmp_le] at c_44
            refine lv_aload_n hx hb d_F_add_47 rfl (lv_at hl 1 rfl) ?_
            refine va_get (D := (dC, dI)) (ci := 1) (v := .ref ak) (C := "RoomEchoes$Frontier") (T := FT_F) (N := 2) hx hb hts (hi_ in_F) hown hK hP 0 rfl rfl 0 (by decide) (ht_ hts mw53) (fun _ h9 => h9) rfl d_F_add_48 ?_
            refine lv_iload_n hx hb d_F_add_51 rfl (lv_at hl 0 rfl) ?_
            refine lv_aload_n hx hb d_F_add_52 rfl (lv_at hl 1 rfl) ?_
            refine va_get (D := (dC, dI)) (ci := 1) (v := .ref ak) (C := "RoomEchoes$Frontier") (T := FT_F) (N := 2) hx hb hts (hi_ in_F) hown hK hP 0 rfl rfl 0 (by decide) (ht_ hts mw53) (fun _ h9 => h9) rfl d_F_add_53 ?_
            refine lv_iload_n hx hb d_F_add_56 rfl (lv_at hl 0 rfl) ?_
            refine lv_iconst (v := 1) hx hb d_F_add_57 (by decide) ?_
            refine lv_isub hx hb d_F_add_58 ?_
            refine tp_i (nI j) (nI_pred j) ?_
            refine lv_iconst (v := 2) hx hb d_F_add_59 (by decide) ?_
            refine lv_idiv hx hb d_F_add_60 (by decide) ?_
            refine tp_i (nI (j / 2)) (nu_half (by omega)) ?_
            refine va_lald hx hb hK hP 1 1 rfl rfl (vp_in_nI (by omega) (by omega)) d_F_add_61 ?_
            refine tp_l (g (j / 2)) (by rw [nI_clamp (by omega)]) ?_
            refine va_last hx hb hK hP hD hS 1 1 rfl rfl (vp_in_nI (by omega) (by omega)) d_F_add_62 (fun H locs hP hD hS => ?_)
            rw [nI_clamp (n := (j + 1)) (by omega)] at hP hD
            have hP : va_P (dC, dI) vwCl [(aF, .inr (1, [.ref ak, .int (nI (n + 1))])), (ak, .inl (cL, 1001, .inr (.inl (vp_updL g (j + 1) (g (j / 2))))))] H := hP
            have hD : va_D A [(aF, .inr (1, [.ref ak, .int (nI (n + 1))])), (ak, .inl (cL, 1001, .inr (.inl (vp_updL g (j + 1) (g (j / 2))))))] := hD
            refine lv_iload_n hx hb d_F_add_63 rfl (lv_at hl 0 rfl) ?_
            refine lv_iconst (v := 1) hx hb d_F_add_64 (by decide) ?_
            refine lv_isub hx hb d_F_add_65 ?_
            refine tp_i (nI j) (nI_pred j) ?_
            refine lv_iconst (v := 2) hx hb d_F_add_66 (by decide) ?_
            refine lv_idiv hx hb d_F_add_67 (by decide) ?_
            refine tp_i (nI (j / 2)) (nu_half (by omega)) ?_
            refine lv_istore_n (lv' := [(3, .int (nI (j / 2))), (0, .ref aF), (1, .long key)]) hx hb d_F_add_68 rfl hl (by decide) rfl (fun ls hl => ?_)
            refine lv_goto (tgt := 28) hx hb d_F_add_69 (by decide) ?_
            exact ih (j / 2) _ (by omega) (by omega) (fu_2 c_44 hj) _ _ hP hD hS ls (lv_sub hl [0, 1, 2] rfl)
    exact lp (n + 1) n f (by omega) (Nat.le_refl _) rfl _ _ hP hD hS ls (lv_sub hl [0, 1, 2] rfl)
  · skip
    exact absurd (show nI n < nI 1001 from nI_lt (by omega) (by omega)) c_9

theorem fd_0 {key : Int64} {d n k : Nat} {r res : Nat → Int64} (h : ¬ 2 * k + 1 < n) (hj : pu_dn key n (d + 1) k r = res) : vp_updL r k key = res := by
  rw [← hj]
  exact (if_neg h).symm
theorem fd_1 {key : Int64} {d n k : Nat} {r res : Nat → Int64} (h : 2 * k + 1 < n) (h2 : ¬ r (pu_lc n r (2 * k + 1)) < key) (hj : pu_dn key n (d + 1) k r = res) : vp_updL r k key = res := by
  rw [← hj]
  unfold pu_dn
  rw [if_pos h, if_pos (pu_nlt h2)]
theorem fd_2 {key : Int64} {d n k : Nat} {r res : Nat → Int64} (h : 2 * k + 1 < n) (h2 : r (pu_lc n r (2 * k + 1)) < key) (hj : pu_dn key n (d + 1) k r = res) : pu_dn key n d (pu_lc n r (2 * k + 1)) (vp_updL r k (r (pu_lc n r (2 * k + 1)))) = res := by
  rw [← hj]
  show _ = if 2 * k + 1 < n then (if key ≤ r (pu_lc n r (2 * k + 1)) then vp_updL r k key else pu_dn key n d (pu_lc n r (2 * k + 1)) (vp_updL r k (r (pu_lc n r (2 * k + 1))))) else vp_updL r k key
  rw [if_pos h, if_neg (fun q => by rw [pu_lt] at h2; rw [pu_le] at q; omega)]

set_option maxHeartbeats 4000000 in
set_option maxRecDepth 100000 in
theorem c_F_sink (l : Launch) (dC : Nat → ClassId) (dI : Nat → Nat → Nat) (cI cL : ClassId) (aF : Nat) (ak : Nat) (n : Nat) (f : Nat → Int64) (key : Int64) (sz : Nat) (hn : n ≤ 1001) : Met l y_F_sinkFromTop w_F_sinkFromTop ({ frames := 1, cells := 0, slots := 0, locals := 22 }) (wr_P (dC, dI) cI cL [(aF, .inr (1, [.ref ak, .int (nI n)])), (ak, .inl (cL, 1001, .inr (.inl f)))] sz [.ref aF, .long key]) (wr_v (dC, dI) (va_A [(aF, .inr (1, [.ref ak, .int (nI n)])), (ak, .inl (cL, 1001, .inr (.inl f)))] sz) [(aF, .inr (1, [.ref ak, .int (nI n)])), (ak, .inl (cL, 1001, .inr (.inl (pu_dn key n (n + 1) 0 f))))]) 0 0 (va_A [(aF, .inr (1, [.ref ak, .int (nI n)])), (ak, .inl (cL, 1001, .inr (.inl f)))] sz) := by
  refine Met.ofW (cc := b_F_sinkFromTop) (maxL := 5) (ret := none) (by decide) rfl ?_
  intro p e s m args below meth c s₁ B hml hv
  obtain ⟨rfl, hsz, hP, hM, hD0⟩ := hv
  have hx := B.exec
  have hb := B.bytes
  have hr := B.returns
  have hts := atoms_spec (ws := w_F_sinkFromTop) B.pre
  have hown : s.vm.findClass "RoomEchoes$Frontier" = some m.cls := findClass_of_methodNamed B.named
  have hlocks := B.notSynchronized
  have hK := hM.1
  subst hsz
  have hD := hD0.self (sz := s.heap.size)
  generalize hAe : va_A [(aF, .inr (1, [.ref ak, .int (nI n)])), (ak, .inl (cL, 1001, .inr (.inl f)))] s.heap.size = A at hD ⊢
  have hA : ∀ q : Nat, s.heap.size ≤ q → A q := fun q h => by rw [← hAe]; exact Or.inr h
  have hS : va_S A s.heap s.heap [] := va_S.rf
  have hP : va_P (dC, dI) vwCl [(aF, .inr (1, [.ref ak, .int (nI n)])), (ak, .inl (cL, 1001, .inr (.inl f)))] s.heap := hP
  have hl := lv_entry ([.ref aF, .long key]) (n := 5) (Nat.le_of_ble_eq_true rfl)
  rw [lg_entry_eq]
  generalize (lg_sl ([.ref aF, .long key]) ++ List.replicate (5 - (lg_sl ([.ref aF, .long key])).length) Slot.unset).toArray = ls at hl ⊢
  have hl : lv_has ls 5 [(0, .ref aF), (1, .long key)] := hl
  refine lv_iconst (v := 0) hx hb d_F_sinkFromTop_0 (by decide) ?_
  refine lv_istore_n (lv' := [(3, .int 0), (0, .ref aF), (1, .long key)]) hx hb d_F_sinkFromTop_1 rfl hl (by decide) rfl (fun ls hl => ?_)
  have lp : ∀ (n9 : Nat) (t : Nat) (g : Nat → Int64), n < t + n9 → t < n ∨ t = 0 → pu_dn key n n9 t g = pu_dn key n (n + 1) 0 f → ∀ (H : Heap) (locs : List Loc), va_P (dC, dI) vwCl [(aF, .inr (1, [.ref ak, .int (nI n)])), (ak, .inl (cL, 1001, .inr (.inl g)))] H → va_D A [(aF, .inr (1, [.ref ak, .int (nI n)])), (ak, .inl (cL, 1001, .inr (.inl g)))] → va_S A s.heap H locs → ∀ (ls : Array Slot), lv_has ls 5 [(3, .int (nI t)), (0, .ref aF), (1, .long key)] → W p l e (headSpec w_F_sinkFromTop ({ frames := 1, cells := 0, slots := 0, locals := 22 })).room s m ([.ref aF, .long key] : List Value).toArray below meth c H locs 0 0 (MQ below (wr_v (dC, dI) A [(aF, .inr (1, [.ref ak, .int (nI n)])), (ak, .inl (cL, 1001, .inr (.inl (pu_dn key n (n + 1) 0 f))))]) ([.ref aF, .long key] : List Value).toArray s 0 0 A) (F0 m 2 ls []) := by
    intro n9
    induction n9 with
    | zero => intro t g ht9 htn hj H locs hP hD hS ls hl; omega
    | succ n9 ih =>
      intro t g ht9 htn hj H locs hP hD hS ls hl
      refine lv_iconst (v := 2) hx hb d_F_sinkFromTop_2 (by decide) ?_
      refine lv_iload_n hx hb d_F_sinkFromTop_3 rfl (lv_at hl 0 rfl) ?_
      refine lv_imul hx hb d_F_sinkFromTop_4 ?_
      refine lv_iconst (v := 1) hx hb d_F_sinkFromTop_5 (by decide) ?_
      refine lv_iadd hx hb d_F_sinkFromTop_6 ?_
      refine tp_i (nI (2 * t + 1)) (nu_21 t) ?_
      refine lv_aload_n hx hb d_F_sinkFromTop_7 rfl (lv_at hl 1 rfl) ?_
      refine va_get (D := (dC, dI)) (ci := 1) (v := .int (nI n)) (C := "RoomEchoes$Frontier") (T := FT_F) (N := 2) hx hb hts (hi_ in_F) hown hK hP 0 rfl rfl 1 (by decide) (ht_ hts mw54) (fun _ h9 => h9) rfl d_F_sinkFromTop_8 ?_
      refine lv_icmp_ge (tgt := 59) hx hb d_F_sinkFromTop_11 (by decide) (fun c_11 => ?_) (fun c_11 => ?_)
      · skip
        refine lv_aload_n hx hb d_F_sinkFromTop_59 rfl (lv_at hl 1 rfl) ?_
        refine va_get (D := (dC, dI)) (ci := 1) (v := .ref ak) (C := "RoomEchoes$Frontier") (T := FT_F) (N := 2) hx hb hts (hi_ in_F) hown hK hP 0 rfl rfl 0 (by decide) (ht_ hts mw53) (fun _ h9 => h9) rfl d_F_sinkFromTop_60 ?_
        refine lv_iload_n hx hb d_F_sinkFromTop_63 rfl (lv_at hl 0 rfl) ?_
        refine lv_lload_n hx hb d_F_sinkFromTop_64 rfl (lv_at hl 2 rfl) ?_
        refine va_last hx hb hK hP hD hS 1 1 rfl rfl (vp_in_nI (by omega) (by omega)) d_F_sinkFromTop_65 (fun H locs hP hD hS => ?_)
        rw [nI_clamp (n := t) (by omega)] at hP hD
        have hP : va_P (dC, dI) vwCl [(aF, .inr (1, [.ref ak, .int (nI n)])), (ak, .inl (cL, 1001, .inr (.inl (vp_updL g t key))))] H := hP
        have hD : va_D A [(aF, .inr (1, [.ref ak, .int (nI n)])), (ak, .inl (cL, 1001, .inr (.inl (vp_updL g t key))))] := hD
        have e9 : vp_updL g t key = pu_dn key n (n + 1) 0 f := fd_0 (by have h9 : nI n ≤ nI (2 * t + 1) := c_11; rw [nI_leI (by omega) (by omega)] at h9; omega) hj
        rw [e9] at hP hD
        have hP9 := hP
        have hD9 := hD
        exact W.vret hx hb hr (fun t ht hW => ⟨⟨(), rfl, trivial, by rw [ht]; exact hP9, hD9⟩, hS.F ht⟩) hS.2.2 d_F_sinkFromTop_66
      · skip
        have hc : 2 * t + 1 < n := by have h9 : ¬ nI n ≤ nI (2 * t + 1) := c_11; rw [nI_leI (by omega) (by omega)] at h9; omega
        obtain ⟨v1, v2, -, -⟩ := pu_lc_is (f := g) hc
        refine lv_aload_n hx hb d_F_sinkFromTop_14 rfl (lv_at hl 1 rfl) ?_
        refine lv_iconst (v := 2) hx hb d_F_sinkFromTop_15 (by decide) ?_
        refine lv_iload_n hx hb d_F_sinkFromTop_16 rfl (lv_at hl 0 rfl) ?_
        refine lv_imul hx hb d_F_sinkFromTop_17 ?_
        refine lv_iconst (v := 1) hx hb d_F_sinkFromTop_18 (by decide) ?_
        refine lv_iadd hx hb d_F_sinkFromTop_19 ?_
        refine tp_i (nI (2 * t + 1)) (nu_21 t) ?_
        have hPc := hP.sub (ws' := [(aF, .inr (1, [.ref ak, .int (nI n)])), (ak, .inl (cL, 1001, .inr (.inl g)))]) [0, 1] rfl
        refine rd_c (va_runV (As := [.int (nI (2 * t + 1))]) (rest := []) ⟨hx, hb, hml, hown, hts⟩ (c_F_lesserOf l dC dI cI cL aF ak n g (2 * t + 1) hn hc) (cwV 1 hts (gi_V mw338 mw335 mw337 mw10 mw31) rfl rfl rfl (by decide +kernel) ⟨Nat.le_of_ble_eq_true rfl, Nat.le_of_ble_eq_true rfl⟩) (rd_V hM hPc rfl rfl rfl) rfl rfl hl.1 rfl (lv_room (Nat.le_of_ble_eq_true rfl)) d_F_sinkFromTop_20 ⟨Nat.le_of_ble_eq_true rfl, Nat.le_of_ble_eq_true rfl⟩) ?_
        refine lv_istore (lv' := [(4, .int (nI (pu_lc n g (2 * t + 1)))), (3, .int (nI t)), (0, .ref aF), (1, .long key)]) hx hb d_F_sinkFromTop_23 hl (by decide) rfl (fun ls hl => ?_)
        refine lv_aload_n hx hb d_F_sinkFromTop_25 rfl (lv_at hl 2 rfl) ?_
        refine va_get (D := (dC, dI)) (ci := 1) (v := .ref ak) (C := "RoomEchoes$Frontier") (T := FT_F) (N := 2) hx hb hts (hi_ in_F) hown hK hP 0 rfl rfl 0 (by decide) (ht_ hts mw53) (fun _ h9 => h9) rfl d_F_sinkFromTop_26 ?_
        refine lv_iload hx hb d_F_sinkFromTop_29 (lv_at hl 0 rfl) ?_
        refine va_lald hx hb hK hP 1 1 rfl rfl (vp_in_nI (by omega) (by omega)) d_F_sinkFromTop_31 ?_
        refine tp_l (g (pu_lc n g (2 * t + 1))) (by rw [nI_clamp (by omega)]) ?_
        refine lv_lload_n hx hb d_F_sinkFromTop_32 rfl (lv_at hl 3 rfl) ?_
        refine W.lcmp hx hb d_F_sinkFromTop_33 ?_
        refine lv_if_lt (tgt := 40) hx hb d_F_sinkFromTop_34 (by decide) (fun c_34 => ?_) (fun c_34 => ?_)
        · rw [lg_cmp_lt] at c_34
          refine lv_aload_n hx hb d_F_sinkFromTop_40 rfl (lv_at hl 2 rfl) ?_
          refine va_get (D := (dC, dI)) (ci := 1) (v := .ref ak) (C := "RoomEchoes$Frontier") (T := FT_F) (N := 2) hx hb hts (hi_ in_F) hown hK hP 0 rfl rfl 0 (by decide) (ht_ hts mw53) (fun _ h9 => h9) rfl d_F_sinkFromTop_41 ?_
          refine lv_iload_n hx hb d_F_sinkFromTop_44 rfl (lv_at hl 1 rfl) ?_
          refine lv_aload_n hx hb d_F_sinkFromTop_45 rfl (lv_at hl 2 rfl) ?_
          refine va_get (D := (dC, dI)) (ci := 1) (v := .ref ak) (C := "RoomEchoes$Frontier") (T := FT_F) (N := 2) hx hb hts (hi_ in_F) hown hK hP 0 rfl rfl 0 (by decide) (ht_ hts mw53) (fun _ h9 => h9) rfl d_F_sinkFromTop_46 ?_
          refine lv_iload hx hb d_F_sinkFromTop_49 (lv_at hl 0 rfl) ?_
          refine va_lald hx hb hK hP 1 1 rfl rfl (vp_in_nI (by omega) (by omega)) d_F_sinkFromTop_51 ?_
          refine tp_l (g (pu_lc n g (2 * t + 1))) (by rw [nI_clamp (by omega)]) ?_
          refine va_last hx hb hK hP hD hS 1 1 rfl rfl (vp_in_nI (by omega) (by omega)) d_F_sinkFromTop_52 (fun H locs hP hD hS => ?_)
          rw [nI_clamp (n := t) (by omega)] at hP hD
          have hP : va_P (dC, dI) vwCl [(aF, .inr (1, [.ref ak, .int (nI n)])), (ak, .inl (cL, 1001, .inr (.inl (vp_updL g t (g (pu_lc n g (2 * t + 1)))))))] H := hP
          have hD : va_D A [(aF, .inr (1, [.ref ak, .int (nI n)])), (ak, .inl (cL, 1001, .inr (.inl (vp_updL g t (g (pu_lc n g (2 * t + 1)))))))] := hD
          refine lv_iload hx hb d_F_sinkFromTop_53 (lv_at hl 0 rfl) ?_
          refine lv_istore_n (lv' := [(3, .int (nI (pu_lc n g (2 * t + 1)))), (4, .int (nI (pu_lc n g (2 * t + 1)))), (0, .ref aF), (1, .long key)]) hx hb d_F_sinkFromTop_55 rfl hl (by decide) rfl (fun ls hl => ?_)
          refine lv_goto (tgt := 2) hx hb d_F_sinkFromTop_56 (by decide) ?_
          exact ih (pu_lc n g (2 * t + 1)) _ (by omega) (by omega) (fd_2 hc c_34 hj) _ _ hP hD hS ls (lv_sub hl [0, 2, 3] rfl)
        · rw [lg_cmp_lt] at c_34
          refine lv_goto (tgt := 59) hx hb d_F_sinkFromTop_37 (by decide) ?_
          refine lv_aload_n hx hb d_F_sinkFromTop_59 rfl (lv_at hl 2 rfl) ?_
          refine va_get (D := (dC, dI)) (ci := 1) (v := .ref ak) (C := "RoomEchoes$Frontier") (T := FT_F) (N := 2) hx hb hts (hi_ in_F) hown hK hP 0 rfl rfl 0 (by decide) (ht_ hts mw53) (fun _ h9 => h9) rfl d_F_sinkFromTop_60 ?_
          refine lv_iload_n hx hb d_F_sinkFromTop_63 rfl (lv_at hl 1 rfl) ?_
          refine lv_lload_n hx hb d_F_sinkFromTop_64 rfl (lv_at hl 3 rfl) ?_
          refine va_last hx hb hK hP hD hS 1 1 rfl rfl (vp_in_nI (by omega) (by omega)) d_F_sinkFromTop_65 (fun H locs hP hD hS => ?_)
          rw [nI_clamp (n := t) (by omega)] at hP hD
          have hP : va_P (dC, dI) vwCl [(aF, .inr (1, [.ref ak, .int (nI n)])), (ak, .inl (cL, 1001, .inr (.inl (vp_updL g t key))))] H := hP
          have hD : va_D A [(aF, .inr (1, [.ref ak, .int (nI n)])), (ak, .inl (cL, 1001, .inr (.inl (vp_updL g t key))))] := hD
          have e9 : vp_updL g t key = pu_dn key n (n + 1) 0 f := fd_1 hc c_34 hj
          rw [e9] at hP hD
          have hP9 := hP
          have hD9 := hD
          exact W.vret hx hb hr (fun t ht hW => ⟨⟨(), rfl, trivial, by rw [ht]; exact hP9, hD9⟩, hS.F ht⟩) hS.2.2 d_F_sinkFromTop_66
  exact lp (n + 1) 0 f (by omega) (Or.inr rfl) rfl _ _ hP hD hS ls (lv_sub hl [0, 1, 2] rfl)

set_option maxHeartbeats 4000000 in
set_option maxRecDepth 100000 in
theorem c_F_take (l : Launch) (dC : Nat → ClassId) (dI : Nat → Nat → Nat) (cI cL : ClassId) (aF : Nat) (ak : Nat) (n : Nat) (f : Nat → Int64) (sz : Nat) (hn : n < 1001) : Met l y_F_takeLeast w_F_takeLeast ({ frames := 2, cells := 0, slots := 0, locals := 46 }) (wr_P (dC, dI) cI cL [(aF, .inr (1, [.ref ak, .int (nI (n + 1))])), (ak, .inl (cL, 1001, .inr (.inl f)))] sz [.ref aF]) (wr_l (f 0) (dC, dI) (va_A [(aF, .inr (1, [.ref ak, .int (nI (n + 1))])), (ak, .inl (cL, 1001, .inr (.inl f)))] sz) [(aF, .inr (1, [.ref ak, .int (nI n)])), (ak, .inl (cL, 1001, .inr (.inl (pu_dn (f n) n (n + 1) 0 f))))]) 0 0 (va_A [(aF, .inr (1, [.ref ak, .int (nI (n + 1))])), (ak, .inl (cL, 1001, .inr (.inl f)))] sz) := by
  refine Met.ofW (cc := b_F_takeLeast) (maxL := 3) (ret := (some .long)) (by decide) rfl ?_
  intro p e s m args below meth c s₁ B hml hv
  obtain ⟨rfl, hsz, hP, hM, hD0⟩ := hv
  have hx := B.exec
  have hb := B.bytes
  have hr := B.returns
  have hts := atoms_spec (ws := w_F_takeLeast) B.pre
  have hown : s.vm.findClass "RoomEchoes$Frontier" = some m.cls := findClass_of_methodNamed B.named
  have hlocks := B.notSynchronized
  have hK := hM.1
  subst hsz
  have hD := hD0.self (sz := s.heap.size)
  generalize hAe : va_A [(aF, .inr (1, [.ref ak, .int (nI (n + 1))])), (ak, .inl (cL, 1001, .inr (.inl f)))] s.heap.size = A at hD ⊢
  have hA : ∀ q : Nat, s.heap.size ≤ q → A q := fun q h => by rw [← hAe]; exact Or.inr h
  have hS : va_S A s.heap s.heap [] := va_S.rf
  have hP : va_P (dC, dI) vwCl [(aF, .inr (1, [.ref ak, .int (nI (n + 1))])), (ak, .inl (cL, 1001, .inr (.inl f)))] s.heap := hP
  have hl := lv_entry ([.ref aF]) (n := 3) (Nat.le_of_ble_eq_true rfl)
  rw [lg_entry_eq]
  generalize (lg_sl ([.ref aF]) ++ List.replicate (3 - (lg_sl ([.ref aF])).length) Slot.unset).toArray = ls at hl ⊢
  have hl : lv_has ls 3 [(0, .ref aF)] := hl
  refine lv_aload_n hx hb d_F_takeLeast_0 rfl (lv_at hl 0 rfl) ?_
  refine va_get (D := (dC, dI)) (ci := 1) (v := .int (nI (n + 1))) (C := "RoomEchoes$Frontier") (T := FT_F) (N := 2) hx hb hts (hi_ in_F) hown hK hP 0 rfl rfl 1 (by decide) (ht_ hts mw54) (fun _ h9 => h9) rfl d_F_takeLeast_1 ?_
  refine lv_iconst (v := 1) hx hb d_F_takeLeast_4 (by decide) ?_
  refine lv_icmp_ge (tgt := 10) hx hb d_F_takeLeast_5 (by decide) (fun c_5 => ?_) (fun c_5 => ?_)
  · skip
    refine lv_aload_n hx hb d_F_takeLeast_10 rfl (lv_at hl 0 rfl) ?_
    refine va_get (D := (dC, dI)) (ci := 1) (v := .ref ak) (C := "RoomEchoes$Frontier") (T := FT_F) (N := 2) hx hb hts (hi_ in_F) hown hK hP 0 rfl rfl 0 (by decide) (ht_ hts mw53) (fun _ h9 => h9) rfl d_F_takeLeast_11 ?_
    refine lv_iconst (v := 0) hx hb d_F_takeLeast_14 (by decide) ?_
    refine va_lald hx hb hK hP 1 1 rfl rfl (by unfold vp_in; decide) d_F_takeLeast_15 ?_
    refine tp_l (f 0) rfl ?_
    refine lv_lstore_n (lv' := [(1, .long (f 0)), (0, .ref aF)]) hx hb d_F_takeLeast_16 rfl hl (by decide) rfl (fun ls hl => ?_)
    refine lv_aload_n hx hb d_F_takeLeast_17 rfl (lv_at hl 1 rfl) ?_
    refine lv_dup hx hb d_F_takeLeast_18 rfl ?_
    refine va_get (D := (dC, dI)) (ci := 1) (v := .int (nI (n + 1))) (C := "RoomEchoes$Frontier") (T := FT_F) (N := 2) hx hb hts (hi_ in_F) hown hK hP 0 rfl rfl 1 (by decide) (ht_ hts mw54) (fun _ h9 => h9) rfl d_F_takeLeast_19 ?_
    refine lv_iconst (v := 1) hx hb d_F_takeLeast_22 (by decide) ?_
    refine lv_isub hx hb d_F_takeLeast_23 ?_
    refine tp_i (nI n) (nI_pred n) ?_
    refine va_put (D := (dC, dI)) (ci := 1) (v := .int (nI n)) (ty := .int) (C := "RoomEchoes$Frontier") (T := FT_F) (N := 2) hx hb hts (hi_ in_F) ty_F tyo_F nm_F hown hK hP hD hS 0 rfl rfl 1 (by decide) (ht_ hts mw54) (fun _ h9 => h9) rfl (by decide +kernel) rfl rfl (Nat.le_of_ble_eq_true rfl) d_F_takeLeast_24 (fun H locs hP hD hS => ?_)
    have hP : va_P (dC, dI) vwCl [(aF, .inr (1, [.ref ak, .int (nI n)])), (ak, .inl (cL, 1001, .inr (.inl f)))] H := hP
    have hD : va_D A [(aF, .inr (1, [.ref ak, .int (nI n)])), (ak, .inl (cL, 1001, .inr (.inl f)))] := hD
    refine lv_aload_n hx hb d_F_takeLeast_27 rfl (lv_at hl 1 rfl) ?_
    refine lv_aload_n hx hb d_F_takeLeast_28 rfl (lv_at hl 1 rfl) ?_
    refine va_get (D := (dC, dI)) (ci := 1) (v := .ref ak) (C := "RoomEchoes$Frontier") (T := FT_F) (N := 2) hx hb hts (hi_ in_F) hown hK hP 0 rfl rfl 0 (by decide) (ht_ hts mw53) (fun _ h9 => h9) rfl d_F_takeLeast_29 ?_
    refine lv_aload_n hx hb d_F_takeLeast_32 rfl (lv_at hl 1 rfl) ?_
    refine va_get (D := (dC, dI)) (ci := 1) (v := .int (nI n)) (C := "RoomEchoes$Frontier") (T := FT_F) (N := 2) hx hb hts (hi_ in_F) hown hK hP 0 rfl rfl 1 (by decide) (ht_ hts mw54) (fun _ h9 => h9) rfl d_F_takeLeast_33 ?_
    refine va_lald hx hb hK hP 1 1 rfl rfl (vp_in_nI (by omega) (by omega)) d_F_takeLeast_36 ?_
    refine tp_l (f n) (by rw [nI_clamp (by omega)]) ?_
    have hPc := hP.sub (ws' := [(aF, .inr (1, [.ref ak, .int (nI n)])), (ak, .inl (cL, 1001, .inr (.inl f)))]) [0, 1] rfl
    have hDc := hD.sub (ws' := [(aF, .inr (1, [.ref ak, .int (nI n)])), (ak, .inl (cL, 1001, .inr (.inl f)))]) [0, 1] (by decide) rfl
    refine wr_cv (wr := []) (w1 := [(aF, .inr (1, [.ref ak, .int (nI n)])), (ak, .inl (cL, 1001, .inr (.inl (pu_dn (f n) n (n + 1) 0 f))))]) hP hD hS hA [0, 1] [] rfl rfl (by decide) (by decide) (va_runV (As := [.long (f n)]) (rest := []) ⟨hx, hb, hml, hown, hts⟩ (c_F_sink l dC dI cI cL aF ak n f (f n) _ (by omega)) (cwV 1 hts (gi_V mw334 mw331 mw333 mw9 mw31) rfl rfl rfl (by decide +kernel) ⟨Nat.le_of_ble_eq_true rfl, Nat.le_of_ble_eq_true rfl⟩) (wr_V hM hPc hDc rfl rfl rfl) rfl rfl hl.1 rfl (lv_room (Nat.le_of_ble_eq_true rfl)) d_F_takeLeast_37 ⟨Nat.le_of_ble_eq_true rfl, Nat.le_of_ble_eq_true rfl⟩) (fun H locs hP hD hS => ?_)
    have hP := hP.sub (ws' := [(aF, .inr (1, [.ref ak, .int (nI n)])), (ak, .inl (cL, 1001, .inr (.inl (pu_dn (f n) n (n + 1) 0 f))))]) [0, 1] rfl
    have hD := hD.sub (ws' := [(aF, .inr (1, [.ref ak, .int (nI n)])), (ak, .inl (cL, 1001, .inr (.inl (pu_dn (f n) n (n + 1) 0 f))))]) [0, 1] (by decide) rfl
    refine lv_lload_n hx hb d_F_takeLeast_40 rfl (lv_at hl 0 rfl) ?_
    have hP9 : va_P (dC, dI) vwCl [(aF, .inr (1, [.ref ak, .int (nI n)])), (ak, .inl (cL, 1001, .inr (.inl (pu_dn (f n) n (n + 1) 0 f))))] H := hP
    have hD9 : va_D A [(aF, .inr (1, [.ref ak, .int (nI n)])), (ak, .inl (cL, 1001, .inr (.inl (pu_dn (f n) n (n + 1) 0 f))))] := hD
    exact W.lret (v := f 0) hx hb hr (fun t ht hW => ⟨⟨_, (), rfl, rfl, by rw [ht]; exact hP9, hD9⟩, hS.F ht⟩) hS.2.2 d_F_takeLeast_41
  · skip
    exact absurd (show nI 1 ≤ nI (n + 1) from nI_le (by omega) (by omega)) c_5

set_option maxHeartbeats 4000000 in
set_option maxRecDepth 100000 in
theorem c_F_clear (l : Launch) (dC : Nat → ClassId) (dI : Nat → Nat → Nat) (cI cL : ClassId) (aF : Nat) (ak : Nat) (n : Nat) (sz : Nat) : Met l y_F_clear w_F_clear ({ frames := 0, cells := 0, slots := 0, locals := 0 }) (wr_P (dC, dI) cI cL [(aF, .inr (1, [.ref ak, .int (nI n)]))] sz [.ref aF]) (wr_v (dC, dI) (va_A [(aF, .inr (1, [.ref ak, .int (nI n)]))] sz) [(aF, .inr (1, [.ref ak, .int (nI 0)]))]) 0 0 (va_A [(aF, .inr (1, [.ref ak, .int (nI n)]))] sz) := by
  refine Met.ofW (cc := b_F_clear) (maxL := 1) (ret := none) (by decide) rfl ?_
  intro p e s m args below meth c s₁ B hml hv
  obtain ⟨rfl, hsz, hP, hM, hD0⟩ := hv
  have hx := B.exec
  have hb := B.bytes
  have hr := B.returns
  have hts := atoms_spec (ws := w_F_clear) B.pre
  have hown : s.vm.findClass "RoomEchoes$Frontier" = some m.cls := findClass_of_methodNamed B.named
  have hlocks := B.notSynchronized
  have hK := hM.1
  subst hsz
  have hD := hD0.self (sz := s.heap.size)
  generalize hAe : va_A [(aF, .inr (1, [.ref ak, .int (nI n)]))] s.heap.size = A at hD ⊢
  have hA : ∀ q : Nat, s.heap.size ≤ q → A q := fun q h => by rw [← hAe]; exact Or.inr h
  have hS : va_S A s.heap s.heap [] := va_S.rf
  have hP : va_P (dC, dI) vwCl [(aF, .inr (1, [.ref ak, .int (nI n)]))] s.heap := hP
  have hl := lv_entry ([.ref aF]) (n := 1) (Nat.le_of_ble_eq_true rfl)
  rw [lg_entry_eq]
  generalize (lg_sl ([.ref aF]) ++ List.replicate (1 - (lg_sl ([.ref aF])).length) Slot.unset).toArray = ls at hl ⊢
  have hl : lv_has ls 1 [(0, .ref aF)] := hl
  refine lv_aload_n hx hb d_F_clear_0 rfl (lv_at hl 0 rfl) ?_
  refine lv_iconst (v := 0) hx hb d_F_clear_1 (by decide) ?_
  refine va_put (D := (dC, dI)) (ci := 1) (v := .int 0) (ty := .int) (C := "RoomEchoes$Frontier") (T := FT_F) (N := 2) hx hb hts (hi_ in_F) ty_F tyo_F nm_F hown hK hP hD hS 0 rfl rfl 1 (by decide) (ht_ hts mw54) (fun _ h9 => h9) rfl (by decide +kernel) rfl rfl (Nat.le_of_ble_eq_true rfl) d_F_clear_2 (fun H locs hP hD hS => ?_)
  have hP : va_P (dC, dI) vwCl [(aF, .inr (1, [.ref ak, .int 0]))] H := hP
  have hD : va_D A [(aF, .inr (1, [.ref ak, .int 0]))] := hD
  have hP9 : va_P (dC, dI) vwCl [(aF, .inr (1, [.ref ak, .int (nI 0)]))] H := hP
  have hD9 : va_D A [(aF, .inr (1, [.ref ak, .int (nI 0)]))] := hD
  exact W.vret hx hb hr (fun t ht hW => ⟨⟨(), rfl, trivial, by rw [ht]; exact hP9, hD9⟩, hS.F ht⟩) hS.2.2 d_F_clear_5

set_option maxHeartbeats 4000000 in
set_option maxRecDepth 100000 in
theorem c_R_forget (l : Launch) (dC : Nat → ClassId) (dI : Nat → Nat → Nat) (cI cL : ClassId) (aR : Nat) (aX : Nat) (aY : Nat) (aZ : Nat) (aK : Nat) (aF : Nat) (aE : Nat) (aL : Nat) (od : Int32) (wd : Int32) (sz : Nat) : Met l y_R_forgetOrder w_R_forgetOrder ({ frames := 0, cells := 0, slots := 0, locals := 0 }) (wr_P (dC, dI) cI cL [(aR, .inr (2, [.ref aX, .ref aY, .ref aZ, .ref aK, .ref aF, .ref aE, .ref aL, .int od, .int wd]))] sz [.ref aR]) (wr_v (dC, dI) (va_A [(aR, .inr (2, [.ref aX, .ref aY, .ref aZ, .ref aK, .ref aF, .ref aE, .ref aL, .int od, .int wd]))] sz) [(aR, .inr (2, [.ref aX, .ref aY, .ref aZ, .ref aK, .ref aF, .ref aE, .ref aL, .int 0, .int 0]))]) 0 0 (va_A [(aR, .inr (2, [.ref aX, .ref aY, .ref aZ, .ref aK, .ref aF, .ref aE, .ref aL, .int od, .int wd]))] sz) := by
  refine Met.ofW (cc := b_R_forgetOrder) (maxL := 1) (ret := none) (by decide) rfl ?_
  intro p e s m args below meth c s₁ B hml hv
  obtain ⟨rfl, hsz, hP, hM, hD0⟩ := hv
  have hx := B.exec
  have hb := B.bytes
  have hr := B.returns
  have hts := atoms_spec (ws := w_R_forgetOrder) B.pre
  have hown : s.vm.findClass "RoomEchoes" = some m.cls := findClass_of_methodNamed B.named
  have hlocks := B.notSynchronized
  have hK := hM.1
  subst hsz
  have hD := hD0.self (sz := s.heap.size)
  generalize hAe : va_A [(aR, .inr (2, [.ref aX, .ref aY, .ref aZ, .ref aK, .ref aF, .ref aE, .ref aL, .int od, .int wd]))] s.heap.size = A at hD ⊢
  have hA : ∀ q : Nat, s.heap.size ≤ q → A q := fun q h => by rw [← hAe]; exact Or.inr h
  have hS : va_S A s.heap s.heap [] := va_S.rf
  have hP : va_P (dC, dI) vwCl [(aR, .inr (2, [.ref aX, .ref aY, .ref aZ, .ref aK, .ref aF, .ref aE, .ref aL, .int od, .int wd]))] s.heap := hP
  have hl := lv_entry ([.ref aR]) (n := 1) (Nat.le_of_ble_eq_true rfl)
  rw [lg_entry_eq]
  generalize (lg_sl ([.ref aR]) ++ List.replicate (1 - (lg_sl ([.ref aR])).length) Slot.unset).toArray = ls at hl ⊢
  have hl : lv_has ls 1 [(0, .ref aR)] := hl
  refine lv_aload_n hx hb d_R_forgetOrder_0 rfl (lv_at hl 0 rfl) ?_
  refine lv_iconst (v := 0) hx hb d_R_forgetOrder_1 (by decide) ?_
  refine va_put (D := (dC, dI)) (ci := 2) (v := .int 0) (ty := .boolean) (C := "RoomEchoes") (T := FT_R) (N := 9) hx hb hts (hi_ in_R) ty_R tyo_R nm_R hown hK hP hD hS 0 rfl rfl 7 (by decide) (ht_ hts mw103) (fun _ h9 => h9) rfl (by decide +kernel) rfl rfl (Nat.le_of_ble_eq_true rfl) d_R_forgetOrder_2 (fun H locs hP hD hS => ?_)
  have hP : va_P (dC, dI) vwCl [(aR, .inr (2, [.ref aX, .ref aY, .ref aZ, .ref aK, .ref aF, .ref aE, .ref aL, .int 0, .int wd]))] H := hP
  have hD : va_D A [(aR, .inr (2, [.ref aX, .ref aY, .ref aZ, .ref aK, .ref aF, .ref aE, .ref aL, .int 0, .int wd]))] := hD
  refine lv_aload_n hx hb d_R_forgetOrder_5 rfl (lv_at hl 0 rfl) ?_
  refine lv_iconst (v := 0) hx hb d_R_forgetOrder_6 (by decide) ?_
  refine va_put (D := (dC, dI)) (ci := 2) (v := .int 0) (ty := .boolean) (C := "RoomEchoes") (T := FT_R) (N := 9) hx hb hts (hi_ in_R) ty_R tyo_R nm_R hown hK hP hD hS 0 rfl rfl 8 (by decide) (ht_ hts mw104) (fun _ h9 => h9) rfl (by decide +kernel) rfl rfl (Nat.le_of_ble_eq_true rfl) d_R_forgetOrder_7 (fun H locs hP hD hS => ?_)
  have hP : va_P (dC, dI) vwCl [(aR, .inr (2, [.ref aX, .ref aY, .ref aZ, .ref aK, .ref aF, .ref aE, .ref aL, .int 0, .int 0]))] H := hP
  have hD : va_D A [(aR, .inr (2, [.ref aX, .ref aY, .ref aZ, .ref aK, .ref aF, .ref aE, .ref aL, .int 0, .int 0]))] := hD
  have hP9 : va_P (dC, dI) vwCl [(aR, .inr (2, [.ref aX, .ref aY, .ref aZ, .ref aK, .ref aF, .ref aE, .ref aL, .int 0, .int 0]))] H := hP
  have hD9 : va_D A [(aR, .inr (2, [.ref aX, .ref aY, .ref aZ, .ref aK, .ref aF, .ref aE, .ref aL, .int 0, .int 0]))] := hD
  exact W.vret hx hb hr (fun t ht hW => ⟨⟨(), rfl, trivial, by rw [ht]; exact hP9, hD9⟩, hS.F ht⟩) hS.2.2 d_R_forgetOrder_10
end
section
def ad_key (fX fY fZ : Nat → Int64) (i j m : Nat) : Int64 := j_R_keyOf (j_A_squareAt fX (nI i) + j_A_squareAt fY (nI j) + j_A_squareAt fZ (nI m)) (j_A_numberAt fX (nI i)) (j_A_numberAt fY (nI j)) (j_A_numberAt fZ (nI m))
def ad_n (i j m n : Nat) : Nat := if i < 81 ∧ j < 81 ∧ m < 81 then n + 1 else n
def ad_f (key : Int64) (i j m n : Nat) (f : Nat → Int64) : Nat → Int64 := if i < 81 ∧ j < 81 ∧ m < 81 then pu_up key (n + 1) n f else f
theorem ad_le (i j m n : Nat) : ad_n i j m n ≤ n + 1 ∧ n ≤ ad_n i j m n := by
  unfold ad_n
  split <;> omega
theorem nu_81 {i : Nat} (hi : i ≤ 81) (h : (81 : Int32) ≤ nI i) : ¬ i < 81 := by
  have h9 : nI 81 ≤ nI i := h
  rw [nI_leI (by omega) (by omega)] at h9
  omega
theorem nu_n81 {i : Nat} (hi : i ≤ 81) (h : ¬ (81 : Int32) ≤ nI i) : i < 81 := by
  have h9 : ¬ nI 81 ≤ nI i := h
  rw [nI_leI (by omega) (by omega)] at h9
  omega
theorem nu_z {i : Nat} (hi : i < 2147483648) (h : nI i = 0) : i = 0 := (nI_eq hi (by decide)).mp h
theorem nu_nz {i : Nat} (h : ¬ nI i = 0) : i ≠ 0 := fun q => h (by rw [q, nI_0])

set_option maxHeartbeats 4000000 in
set_option maxRecDepth 100000 in
theorem c_R_addAtRanks (l : Launch) (dC : Nat → ClassId) (dI : Nat → Nat → Nat) (cI cL : ClassId) (aR : Nat) (aX : Nat) (aY : Nat) (aZ : Nat) (aK : Nat) (aF : Nat) (aE : Nat) (aL : Nat) (od : Int32) (wd : Int32) (wX : Int32) (sX : Int32) (tX : Int32) (rX : Nat) (kX : Nat) (wY : Int32) (sY : Int32) (tY : Int32) (rY : Nat) (kY : Nat) (wZ : Int32) (sZ : Int32) (tZ : Int32) (rZ : Nat) (kZ : Nat) (fX : Nat → Int64) (fY : Nat → Int64) (fZ : Nat → Int64) (aH : Nat) (n : Nat) (f : Nat → Int64) (i : Nat) (j : Nat) (m9 : Nat) (sz : Nat) (hi : i ≤ 81) (hj : j ≤ 81) (hm : m9 ≤ 81) (hn : n < 1001) : Met l y_R_addAtRanks w_R_addAtRanks ({ frames := 2, cells := 0, slots := 0, locals := 48 }) (wr_P (dC, dI) cI cL [(aR, .inr (2, [.ref aX, .ref aY, .ref aZ, .ref aK, .ref aF, .ref aE, .ref aL, .int od, .int wd])), (aX, .inr (0, [.int wX, .int sX, .int tX, .ref rX, .ref kX])), (aY, .inr (0, [.int wY, .int sY, .int tY, .ref rY, .ref kY])), (aZ, .inr (0, [.int wZ, .int sZ, .int tZ, .ref rZ, .ref kZ])), (rX, .inl (cL, 81, .inr (.inl fX))), (rY, .inl (cL, 81, .inr (.inl fY))), (rZ, .inl (cL, 81, .inr (.inl fZ))), (aF, .inr (1, [.ref aH, .int (nI n)])), (aH, .inl (cL, 1001, .inr (.inl f)))] sz [.ref aR, .int (nI i), .int (nI j), .int (nI m9)]) (wr_v (dC, dI) (va_A [(aR, .inr (2, [.ref aX, .ref aY, .ref aZ, .ref aK, .ref aF, .ref aE, .ref aL, .int od, .int wd])), (aX, .inr (0, [.int wX, .int sX, .int tX, .ref rX, .ref kX])), (aY, .inr (0, [.int wY, .int sY, .int tY, .ref rY, .ref kY])), (aZ, .inr (0, [.int wZ, .int sZ, .int tZ, .ref rZ, .ref kZ])), (rX, .inl (cL, 81, .inr (.inl fX))), (rY, .inl (cL, 81, .inr (.inl fY))), (rZ, .inl (cL, 81, .inr (.inl fZ))), (aF, .inr (1, [.ref aH, .int (nI n)])), (aH, .inl (cL, 1001, .inr (.inl f)))] sz) [(aR, .inr (2, [.ref aX, .ref aY, .ref aZ, .ref aK, .ref aF, .ref aE, .ref aL, .int od, .int wd])), (aX, .inr (0, [.int wX, .int sX, .int tX, .ref rX, .ref kX])), (aY, .inr (0, [.int wY, .int sY, .int tY, .ref rY, .ref kY])), (aZ, .inr (0, [.int wZ, .int sZ, .int tZ, .ref rZ, .ref kZ])), (rX, .inl (cL, 81, .inr (.inl fX))), (rY, .inl (cL, 81, .inr (.inl fY))), (rZ, .inl (cL, 81, .inr (.inl fZ))), (aF, .inr (1, [.ref aH, .int (nI (ad_n i j m9 n))])), (aH, .inl (cL, 1001, .inr (.inl (ad_f (ad_key fX fY fZ i j m9) i j m9 n f))))]) 0 0 (va_A [(aR, .inr (2, [.ref aX, .ref aY, .ref aZ, .ref aK, .ref aF, .ref aE, .ref aL, .int od, .int wd])), (aX, .inr (0, [.int wX, .int sX, .int tX, .ref rX, .ref kX])), (aY, .inr (0, [.int wY, .int sY, .int tY, .ref rY, .ref kY])), (aZ, .inr (0, [.int wZ, .int sZ, .int tZ, .ref rZ, .ref kZ])), (rX, .inl (cL, 81, .inr (.inl fX))), (rY, .inl (cL, 81, .inr (.inl fY))), (rZ, .inl (cL, 81, .inr (.inl fZ))), (aF, .inr (1, [.ref aH, .int (nI n)])), (aH, .inl (cL, 1001, .inr (.inl f)))] sz) := by
  refine Met.ofW (cc := b_R_addAtRanks) (maxL := 6) (ret := none) (by decide) rfl ?_
  intro p e s m args below meth c s₁ B hml hv
  obtain ⟨rfl, hsz, hP, hM, hD0⟩ := hv
  have hx := B.exec
  have hb := B.bytes
  have hr := B.returns
  have hts := atoms_spec (ws := w_R_addAtRanks) B.pre
  have hown : s.vm.findClass "RoomEchoes" = some m.cls := findClass_of_methodNamed B.named
  have hlocks := B.notSynchronized
  have hK := hM.1
  subst hsz
  have hD := hD0.self (sz := s.heap.size)
  generalize hAe : va_A [(aR, .inr (2, [.ref aX, .ref aY, .ref aZ, .ref aK, .ref aF, .ref aE, .ref aL, .int od, .int wd])), (aX, .inr (0, [.int wX, .int sX, .int tX, .ref rX, .ref kX])), (aY, .inr (0, [.int wY, .int sY, .int tY, .ref rY, .ref kY])), (aZ, .inr (0, [.int wZ, .int sZ, .int tZ, .ref rZ, .ref kZ])), (rX, .inl (cL, 81, .inr (.inl fX))), (rY, .inl (cL, 81, .inr (.inl fY))), (rZ, .inl (cL, 81, .inr (.inl fZ))), (aF, .inr (1, [.ref aH, .int (nI n)])), (aH, .inl (cL, 1001, .inr (.inl f)))] s.heap.size = A at hD ⊢
  have hA : ∀ q : Nat, s.heap.size ≤ q → A q := fun q h => by rw [← hAe]; exact Or.inr h
  have hS : va_S A s.heap s.heap [] := va_S.rf
  have hP : va_P (dC, dI) vwCl [(aR, .inr (2, [.ref aX, .ref aY, .ref aZ, .ref aK, .ref aF, .ref aE, .ref aL, .int od, .int wd])), (aX, .inr (0, [.int wX, .int sX, .int tX, .ref rX, .ref kX])), (aY, .inr (0, [.int wY, .int sY, .int tY, .ref rY, .ref kY])), (aZ, .inr (0, [.int wZ, .int sZ, .int tZ, .ref rZ, .ref kZ])), (rX, .inl (cL, 81, .inr (.inl fX))), (rY, .inl (cL, 81, .inr (.inl fY))), (rZ, .inl (cL, 81, .inr (.inl fZ))), (aF, .inr (1, [.ref aH, .int (nI n)])), (aH, .inl (cL, 1001, .inr (.inl f)))] s.heap := hP
  have hl := lv_entry ([.ref aR, .int (nI i), .int (nI j), .int (nI m9)]) (n := 6) (Nat.le_of_ble_eq_true rfl)
  rw [lg_entry_eq]
  generalize (lg_sl ([.ref aR, .int (nI i), .int (nI j), .int (nI m9)]) ++ List.replicate (6 - (lg_sl ([.ref aR, .int (nI i), .int (nI j), .int (nI m9)])).length) Slot.unset).toArray = ls at hl ⊢
  have hl : lv_has ls 6 [(0, .ref aR), (1, .int (nI i)), (2, .int (nI j)), (3, .int (nI m9))] := hl
  refine lv_iload_n hx hb d_R_addAtRanks_0 rfl (lv_at hl 1 rfl) ?_
  refine lv_bipush (v := 81) hx hb d_R_addAtRanks_1 (by decide) ?_
  refine lv_icmp_ge (tgt := 82) hx hb d_R_addAtRanks_3 (by decide) (fun c_3 => ?_) (fun c_3 => ?_)
  · skip
    have e1 : ad_n i j m9 n = n := if_neg (fun q => nu_81 hi c_3 q.1)
    have e2 : ad_f (ad_key fX fY fZ i j m9) i j m9 n f = f := if_neg (fun q => nu_81 hi c_3 q.1)
    have hP9 : va_P (dC, dI) vwCl [(aR, .inr (2, [.ref aX, .ref aY, .ref aZ, .ref aK, .ref aF, .ref aE, .ref aL, .int od, .int wd])), (aX, .inr (0, [.int wX, .int sX, .int tX, .ref rX, .ref kX])), (aY, .inr (0, [.int wY, .int sY, .int tY, .ref rY, .ref kY])), (aZ, .inr (0, [.int wZ, .int sZ, .int tZ, .ref rZ, .ref kZ])), (rX, .inl (cL, 81, .inr (.inl fX))), (rY, .inl (cL, 81, .inr (.inl fY))), (rZ, .inl (cL, 81, .inr (.inl fZ))), (aF, .inr (1, [.ref aH, .int (nI (ad_n i j m9 n))])), (aH, .inl (cL, 1001, .inr (.inl (ad_f (ad_key fX fY fZ i j m9) i j m9 n f))))] s.heap := by rw [e1, e2]; exact hP
    have hD9 : va_D A [(aR, .inr (2, [.ref aX, .ref aY, .ref aZ, .ref aK, .ref aF, .ref aE, .ref aL, .int od, .int wd])), (aX, .inr (0, [.int wX, .int sX, .int tX, .ref rX, .ref kX])), (aY, .inr (0, [.int wY, .int sY, .int tY, .ref rY, .ref kY])), (aZ, .inr (0, [.int wZ, .int sZ, .int tZ, .ref rZ, .ref kZ])), (rX, .inl (cL, 81, .inr (.inl fX))), (rY, .inl (cL, 81, .inr (.inl fY))), (rZ, .inl (cL, 81, .inr (.inl fZ))), (aF, .inr (1, [.ref aH, .int (nI (ad_n i j m9 n))])), (aH, .inl (cL, 1001, .inr (.inl (ad_f (ad_key fX fY fZ i j m9) i j m9 n f))))] := by rw [e1, e2]; exact hD
    exact W.vret hx hb hr (fun t ht hW => ⟨⟨(), rfl, trivial, by rw [ht]; exact hP9, hD9⟩, hS.F ht⟩) hS.2.2 d_R_addAtRanks_82
  · skip
    refine lv_iload_n hx hb d_R_addAtRanks_6 rfl (lv_at hl 2 rfl) ?_
    refine lv_bipush (v := 81) hx hb d_R_addAtRanks_7 (by decide) ?_
    refine lv_icmp_ge (tgt := 82) hx hb d_R_addAtRanks_9 (by decide) (fun c_9 => ?_) (fun c_9 => ?_)
    · skip
      have e1 : ad_n i j m9 n = n := if_neg (fun q => nu_81 hj c_9 q.2.1)
      have e2 : ad_f (ad_key fX fY fZ i j m9) i j m9 n f = f := if_neg (fun q => nu_81 hj c_9 q.2.1)
      have hP9 : va_P (dC, dI) vwCl [(aR, .inr (2, [.ref aX, .ref aY, .ref aZ, .ref aK, .ref aF, .ref aE, .ref aL, .int od, .int wd])), (aX, .inr (0, [.int wX, .int sX, .int tX, .ref rX, .ref kX])), (aY, .inr (0, [.int wY, .int sY, .int tY, .ref rY, .ref kY])), (aZ, .inr (0, [.int wZ, .int sZ, .int tZ, .ref rZ, .ref kZ])), (rX, .inl (cL, 81, .inr (.inl fX))), (rY, .inl (cL, 81, .inr (.inl fY))), (rZ, .inl (cL, 81, .inr (.inl fZ))), (aF, .inr (1, [.ref aH, .int (nI (ad_n i j m9 n))])), (aH, .inl (cL, 1001, .inr (.inl (ad_f (ad_key fX fY fZ i j m9) i j m9 n f))))] s.heap := by rw [e1, e2]; exact hP
      have hD9 : va_D A [(aR, .inr (2, [.ref aX, .ref aY, .ref aZ, .ref aK, .ref aF, .ref aE, .ref aL, .int od, .int wd])), (aX, .inr (0, [.int wX, .int sX, .int tX, .ref rX, .ref kX])), (aY, .inr (0, [.int wY, .int sY, .int tY, .ref rY, .ref kY])), (aZ, .inr (0, [.int wZ, .int sZ, .int tZ, .ref rZ, .ref kZ])), (rX, .inl (cL, 81, .inr (.inl fX))), (rY, .inl (cL, 81, .inr (.inl fY))), (rZ, .inl (cL, 81, .inr (.inl fZ))), (aF, .inr (1, [.ref aH, .int (nI (ad_n i j m9 n))])), (aH, .inl (cL, 1001, .inr (.inl (ad_f (ad_key fX fY fZ i j m9) i j m9 n f))))] := by rw [e1, e2]; exact hD
      exact W.vret hx hb hr (fun t ht hW => ⟨⟨(), rfl, trivial, by rw [ht]; exact hP9, hD9⟩, hS.F ht⟩) hS.2.2 d_R_addAtRanks_82
    · skip
      refine lv_iload_n hx hb d_R_addAtRanks_12 rfl (lv_at hl 3 rfl) ?_
      refine lv_bipush (v := 81) hx hb d_R_addAtRanks_13 (by decide) ?_
      refine lv_icmp_ge (tgt := 82) hx hb d_R_addAtRanks_15 (by decide) (fun c_15 => ?_) (fun c_15 => ?_)
      · skip
        have e1 : ad_n i j m9 n = n := if_neg (fun q => nu_81 hm c_15 q.2.2)
        have e2 : ad_f (ad_key fX fY fZ i j m9) i j m9 n f = f := if_neg (fun q => nu_81 hm c_15 q.2.2)
        have hP9 : va_P (dC, dI) vwCl [(aR, .inr (2, [.ref aX, .ref aY, .ref aZ, .ref aK, .ref aF, .ref aE, .ref aL, .int od, .int wd])), (aX, .inr (0, [.int wX, .int sX, .int tX, .ref rX, .ref kX])), (aY, .inr (0, [.int wY, .int sY, .int tY, .ref rY, .ref kY])), (aZ, .inr (0, [.int wZ, .int sZ, .int tZ, .ref rZ, .ref kZ])), (rX, .inl (cL, 81, .inr (.inl fX))), (rY, .inl (cL, 81, .inr (.inl fY))), (rZ, .inl (cL, 81, .inr (.inl fZ))), (aF, .inr (1, [.ref aH, .int (nI (ad_n i j m9 n))])), (aH, .inl (cL, 1001, .inr (.inl (ad_f (ad_key fX fY fZ i j m9) i j m9 n f))))] s.heap := by rw [e1, e2]; exact hP
        have hD9 : va_D A [(aR, .inr (2, [.ref aX, .ref aY, .ref aZ, .ref aK, .ref aF, .ref aE, .ref aL, .int od, .int wd])), (aX, .inr (0, [.int wX, .int sX, .int tX, .ref rX, .ref kX])), (aY, .inr (0, [.int wY, .int sY, .int tY, .ref rY, .ref kY])), (aZ, .inr (0, [.int wZ, .int sZ, .int tZ, .ref rZ, .ref kZ])), (rX, .inl (cL, 81, .inr (.inl fX))), (rY, .inl (cL, 81, .inr (.inl fY))), (rZ, .inl (cL, 81, .inr (.inl fZ))), (aF, .inr (1, [.ref aH, .int (nI (ad_n i j m9 n))])), (aH, .inl (cL, 1001, .inr (.inl (ad_f (ad_key fX fY fZ i j m9) i j m9 n f))))] := by rw [e1, e2]; exact hD
        exact W.vret hx hb hr (fun t ht hW => ⟨⟨(), rfl, trivial, by rw [ht]; exact hP9, hD9⟩, hS.F ht⟩) hS.2.2 d_R_addAtRanks_82
      · skip
        refine lv_aload_n hx hb d_R_addAtRanks_18 rfl (lv_at hl 0 rfl) ?_
        refine va_get (D := (dC, dI)) (ci := 2) (v := .ref aX) (C := "RoomEchoes") (T := FT_R) (N := 9) hx hb hts (hi_ in_R) hown hK hP 0 rfl rfl 0 (by decide) (ht_ hts mw96) (fun _ h9 => h9) rfl d_R_addAtRanks_19 ?_
        refine lv_iload_n hx hb d_R_addAtRanks_22 rfl (lv_at hl 1 rfl) ?_
        have hPc := hP.sub (ws' := [(aX, .inr (0, [.int wX, .int sX, .int tX, .ref rX, .ref kX])), (rX, .inl (cL, 81, .inr (.inl fX)))]) [1, 4] rfl
        refine rd_c (va_runV (As := [.int (nI i)]) (rest := []) ⟨hx, hb, hml, hown, hts⟩ (c_A_squareAt l dC dI cI cL aX wX sX tX rX kX fX (nI i)) (cwV 1 hts (gi_V mw317 mw314 mw315 mw316 mw32) rfl rfl rfl (by decide +kernel) ⟨Nat.le_of_ble_eq_true rfl, Nat.le_of_ble_eq_true rfl⟩) (rd_V hM hPc rfl rfl rfl) rfl rfl hl.1 rfl (lv_room (Nat.le_of_ble_eq_true rfl)) d_R_addAtRanks_23 ⟨Nat.le_of_ble_eq_true rfl, Nat.le_of_ble_eq_true rfl⟩) ?_
        refine lv_aload_n hx hb d_R_addAtRanks_26 rfl (lv_at hl 0 rfl) ?_
        refine va_get (D := (dC, dI)) (ci := 2) (v := .ref aY) (C := "RoomEchoes") (T := FT_R) (N := 9) hx hb hts (hi_ in_R) hown hK hP 0 rfl rfl 1 (by decide) (ht_ hts mw97) (fun _ h9 => h9) rfl d_R_addAtRanks_27 ?_
        refine lv_iload_n hx hb d_R_addAtRanks_30 rfl (lv_at hl 2 rfl) ?_
        have hPc := hP.sub (ws' := [(aY, .inr (0, [.int wY, .int sY, .int tY, .ref rY, .ref kY])), (rY, .inl (cL, 81, .inr (.inl fY)))]) [2, 5] rfl
        refine rd_c (va_runV (As := [.int (nI j)]) (rest := [.long (j_A_squareAt fX (nI i))]) ⟨hx, hb, hml, hown, hts⟩ (c_A_squareAt l dC dI cI cL aY wY sY tY rY kY fY (nI j)) (cwV 1 hts (gi_V mw317 mw314 mw315 mw316 mw32) rfl rfl rfl (by decide +kernel) ⟨Nat.le_of_ble_eq_true rfl, Nat.le_of_ble_eq_true rfl⟩) (rd_V hM hPc rfl rfl rfl) rfl rfl hl.1 rfl (lv_room (Nat.le_of_ble_eq_true rfl)) d_R_addAtRanks_31 ⟨Nat.le_of_ble_eq_true rfl, Nat.le_of_ble_eq_true rfl⟩) ?_
        refine lv_ladd hx hb d_R_addAtRanks_34 ?_
        refine lv_aload_n hx hb d_R_addAtRanks_35 rfl (lv_at hl 0 rfl) ?_
        refine va_get (D := (dC, dI)) (ci := 2) (v := .ref aZ) (C := "RoomEchoes") (T := FT_R) (N := 9) hx hb hts (hi_ in_R) hown hK hP 0 rfl rfl 2 (by decide) (ht_ hts mw98) (fun _ h9 => h9) rfl d_R_addAtRanks_36 ?_
        refine lv_iload_n hx hb d_R_addAtRanks_39 rfl (lv_at hl 3 rfl) ?_
        have hPc := hP.sub (ws' := [(aZ, .inr (0, [.int wZ, .int sZ, .int tZ, .ref rZ, .ref kZ])), (rZ, .inl (cL, 81, .inr (.inl fZ)))]) [3, 6] rfl
        refine rd_c (va_runV (As := [.int (nI m9)]) (rest := [.long ((j_A_squareAt fX (nI i)) + (j_A_squareAt fY (nI j)))]) ⟨hx, hb, hml, hown, hts⟩ (c_A_squareAt l dC dI cI cL aZ wZ sZ tZ rZ kZ fZ (nI m9)) (cwV 1 hts (gi_V mw317 mw314 mw315 mw316 mw32) rfl rfl rfl (by decide +kernel) ⟨Nat.le_of_ble_eq_true rfl, Nat.le_of_ble_eq_true rfl⟩) (rd_V hM hPc rfl rfl rfl) rfl rfl hl.1 rfl (lv_room (Nat.le_of_ble_eq_true rfl)) d_R_addAtRanks_40 ⟨Nat.le_of_ble_eq_true rfl, Nat.le_of_ble_eq_true rfl⟩) ?_
        refine lv_ladd hx hb d_R_addAtRanks_43 ?_
        refine lv_lstore (lv' := [(4, .long (((j_A_squareAt fX (nI i)) + (j_A_squareAt fY (nI j))) + (j_A_squareAt fZ (nI m9)))), (0, .ref aR), (1, .int (nI i)), (2, .int (nI j)), (3, .int (nI m9))]) hx hb d_R_addAtRanks_44 hl (by decide) rfl (fun ls hl => ?_)
        refine lv_aload_n hx hb d_R_addAtRanks_46 rfl (lv_at hl 1 rfl) ?_
        refine va_get (D := (dC, dI)) (ci := 2) (v := .ref aF) (C := "RoomEchoes") (T := FT_R) (N := 9) hx hb hts (hi_ in_R) hown hK hP 0 rfl rfl 4 (by decide) (ht_ hts mw100) (fun _ h9 => h9) rfl d_R_addAtRanks_47 ?_
        refine lv_lload hx hb d_R_addAtRanks_50 (lv_at hl 0 rfl) ?_
        refine lv_aload_n hx hb d_R_addAtRanks_52 rfl (lv_at hl 1 rfl) ?_
        refine va_get (D := (dC, dI)) (ci := 2) (v := .ref aX) (C := "RoomEchoes") (T := FT_R) (N := 9) hx hb hts (hi_ in_R) hown hK hP 0 rfl rfl 0 (by decide) (ht_ hts mw96) (fun _ h9 => h9) rfl d_R_addAtRanks_53 ?_
        refine lv_iload_n hx hb d_R_addAtRanks_56 rfl (lv_at hl 2 rfl) ?_
        have hPc := hP.sub (ws' := [(aX, .inr (0, [.int wX, .int sX, .int tX, .ref rX, .ref kX])), (rX, .inl (cL, 81, .inr (.inl fX)))]) [1, 4] rfl
        refine rd_c (va_runV (As := [.int (nI i)]) (rest := [.long (((j_A_squareAt fX (nI i)) + (j_A_squareAt fY (nI j))) + (j_A_squareAt fZ (nI m9))), .ref aF]) ⟨hx, hb, hml, hown, hts⟩ (c_A_numberAt l dC dI cI cL aX wX sX tX rX kX fX (nI i)) (cwV 1 hts (gi_V mw301 mw318 mw299 mw300 mw32) rfl rfl rfl (by decide +kernel) ⟨Nat.le_of_ble_eq_true rfl, Nat.le_of_ble_eq_true rfl⟩) (rd_V hM hPc rfl rfl rfl) rfl rfl hl.1 rfl (lv_room (Nat.le_of_ble_eq_true rfl)) d_R_addAtRanks_57 ⟨Nat.le_of_ble_eq_true rfl, Nat.le_of_ble_eq_true rfl⟩) ?_
        refine lv_aload_n hx hb d_R_addAtRanks_60 rfl (lv_at hl 1 rfl) ?_
        refine va_get (D := (dC, dI)) (ci := 2) (v := .ref aY) (C := "RoomEchoes") (T := FT_R) (N := 9) hx hb hts (hi_ in_R) hown hK hP 0 rfl rfl 1 (by decide) (ht_ hts mw97) (fun _ h9 => h9) rfl d_R_addAtRanks_61 ?_
        refine lv_iload_n hx hb d_R_addAtRanks_64 rfl (lv_at hl 3 rfl) ?_
        have hPc := hP.sub (ws' := [(aY, .inr (0, [.int wY, .int sY, .int tY, .ref rY, .ref kY])), (rY, .inl (cL, 81, .inr (.inl fY)))]) [2, 5] rfl
        refine rd_c (va_runV (As := [.int (nI j)]) (rest := [.int (j_A_numberAt fX (nI i)), .long (((j_A_squareAt fX (nI i)) + (j_A_squareAt fY (nI j))) + (j_A_squareAt fZ (nI m9))), .ref aF]) ⟨hx, hb, hml, hown, hts⟩ (c_A_numberAt l dC dI cI cL aY wY sY tY rY kY fY (nI j)) (cwV 1 hts (gi_V mw301 mw318 mw299 mw300 mw32) rfl rfl rfl (by decide +kernel) ⟨Nat.le_of_ble_eq_true rfl, Nat.le_of_ble_eq_true rfl⟩) (rd_V hM hPc rfl rfl rfl) rfl rfl hl.1 rfl (lv_room (Nat.le_of_ble_eq_true rfl)) d_R_addAtRanks_65 ⟨Nat.le_of_ble_eq_true rfl, Nat.le_of_ble_eq_true rfl⟩) ?_
        refine lv_aload_n hx hb d_R_addAtRanks_68 rfl (lv_at hl 1 rfl) ?_
        refine va_get (D := (dC, dI)) (ci := 2) (v := .ref aZ) (C := "RoomEchoes") (T := FT_R) (N := 9) hx hb hts (hi_ in_R) hown hK hP 0 rfl rfl 2 (by decide) (ht_ hts mw98) (fun _ h9 => h9) rfl d_R_addAtRanks_69 ?_
        refine lv_iload_n hx hb d_R_addAtRanks_72 rfl (lv_at hl 4 rfl) ?_
        have hPc := hP.sub (ws' := [(aZ, .inr (0, [.int wZ, .int sZ, .int tZ, .ref rZ, .ref kZ])), (rZ, .inl (cL, 81, .inr (.inl fZ)))]) [3, 6] rfl
        refine rd_c (va_runV (As := [.int (nI m9)]) (rest := [.int (j_A_numberAt fY (nI j)), .int (j_A_numberAt fX (nI i)), .long (((j_A_squareAt fX (nI i)) + (j_A_squareAt fY (nI j))) + (j_A_squareAt fZ (nI m9))), .ref aF]) ⟨hx, hb, hml, hown, hts⟩ (c_A_numberAt l dC dI cI cL aZ wZ sZ tZ rZ kZ fZ (nI m9)) (cwV 1 hts (gi_V mw301 mw318 mw299 mw300 mw32) rfl rfl rfl (by decide +kernel) ⟨Nat.le_of_ble_eq_true rfl, Nat.le_of_ble_eq_true rfl⟩) (rd_V hM hPc rfl rfl rfl) rfl rfl hl.1 rfl (lv_room (Nat.le_of_ble_eq_true rfl)) d_R_addAtRanks_73 ⟨Nat.le_of_ble_eq_true rfl, Nat.le_of_ble_eq_true rfl⟩) ?_
        refine rd_c (va_runS (As := [.long (((j_A_squareAt fX (nI i)) + (j_A_squareAt fY (nI j))) + (j_A_squareAt fZ (nI m9))), .int (j_A_numberAt fX (nI i)), .int (j_A_numberAt fY (nI j)), .int (j_A_numberAt fZ (nI m9))]) (rest := [.ref aF]) ⟨hx, hb, hml, hown, hts⟩ (c_R_keyOf l (((j_A_squareAt fX (nI i)) + (j_A_squareAt fY (nI j))) + (j_A_squareAt fZ (nI m9))) (j_A_numberAt fX (nI i)) (j_A_numberAt fY (nI j)) (j_A_numberAt fZ (nI m9))) (cwS 4 hts (gi_S mw321 mw319 mw320 mw30) rfl rfl rfl (by decide +kernel) ⟨Nat.le_of_ble_eq_true rfl, Nat.le_of_ble_eq_true rfl⟩) st_S rfl rfl hl.1 rfl (lv_room (Nat.le_of_ble_eq_true rfl)) d_R_addAtRanks_76 ⟨Nat.le_of_ble_eq_true rfl, Nat.le_of_ble_eq_true rfl⟩) ?_
        have hPc := hP.sub (ws' := [(aF, .inr (1, [.ref aH, .int (nI n)])), (aH, .inl (cL, 1001, .inr (.inl f)))]) [7, 8] rfl
        have hDc := hD.sub (ws' := [(aF, .inr (1, [.ref aH, .int (nI n)])), (aH, .inl (cL, 1001, .inr (.inl f)))]) [7, 8] (by decide) rfl
        refine wr_cv (wr := [(aR, .inr (2, [.ref aX, .ref aY, .ref aZ, .ref aK, .ref aF, .ref aE, .ref aL, .int od, .int wd])), (aX, .inr (0, [.int wX, .int sX, .int tX, .ref rX, .ref kX])), (aY, .inr (0, [.int wY, .int sY, .int tY, .ref rY, .ref kY])), (aZ, .inr (0, [.int wZ, .int sZ, .int tZ, .ref rZ, .ref kZ])), (rX, .inl (cL, 81, .inr (.inl fX))), (rY, .inl (cL, 81, .inr (.inl fY))), (rZ, .inl (cL, 81, .inr (.inl fZ)))]) (w1 := [(aF, .inr (1, [.ref aH, .int (nI (n + 1))])), (aH, .inl (cL, 1001, .inr (.inl (pu_up (j_R_keyOf (((j_A_squareAt fX (nI i)) + (j_A_squareAt fY (nI j))) + (j_A_squareAt fZ (nI m9))) (j_A_numberAt fX (nI i)) (j_A_numberAt fY (nI j)) (j_A_numberAt fZ (nI m9))) (n + 1) n f))))]) hP hD hS hA [7, 8] [0, 1, 2, 3, 4, 5, 6] rfl rfl (by decide) (by decide) (va_runV (As := [.long (j_R_keyOf (((j_A_squareAt fX (nI i)) + (j_A_squareAt fY (nI j))) + (j_A_squareAt fZ (nI m9))) (j_A_numberAt fX (nI i)) (j_A_numberAt fY (nI j)) (j_A_numberAt fZ (nI m9)))]) (rest := []) ⟨hx, hb, hml, hown, hts⟩ (c_F_add l dC dI cI cL aF aH n f (j_R_keyOf (((j_A_squareAt fX (nI i)) + (j_A_squareAt fY (nI j))) + (j_A_squareAt fZ (nI m9))) (j_A_numberAt fX (nI i)) (j_A_numberAt fY (nI j)) (j_A_numberAt fZ (nI m9))) _ hn) (cwV 1 hts (gi_V mw326 mw323 mw324 mw325 mw31) rfl rfl rfl (by decide +kernel) ⟨Nat.le_of_ble_eq_true rfl, Nat.le_of_ble_eq_true rfl⟩) (wr_V hM hPc hDc rfl rfl rfl) rfl rfl hl.1 rfl (lv_room (Nat.le_of_ble_eq_true rfl)) d_R_addAtRanks_79 ⟨Nat.le_of_ble_eq_true rfl, Nat.le_of_ble_eq_true rfl⟩) (fun H locs hP hD hS => ?_)
        have hP := hP.sub (ws' := [(aR, .inr (2, [.ref aX, .ref aY, .ref aZ, .ref aK, .ref aF, .ref aE, .ref aL, .int od, .int wd])), (aX, .inr (0, [.int wX, .int sX, .int tX, .ref rX, .ref kX])), (aY, .inr (0, [.int wY, .int sY, .int tY, .ref rY, .ref kY])), (aZ, .inr (0, [.int wZ, .int sZ, .int tZ, .ref rZ, .ref kZ])), (rX, .inl (cL, 81, .inr (.inl fX))), (rY, .inl (cL, 81, .inr (.inl fY))), (rZ, .inl (cL, 81, .inr (.inl fZ))), (aF, .inr (1, [.ref aH, .int (nI (n + 1))])), (aH, .inl (cL, 1001, .inr (.inl (pu_up (j_R_keyOf (((j_A_squareAt fX (nI i)) + (j_A_squareAt fY (nI j))) + (j_A_squareAt fZ (nI m9))) (j_A_numberAt fX (nI i)) (j_A_numberAt fY (nI j)) (j_A_numberAt fZ (nI m9))) (n + 1) n f))))]) [0, 1, 2, 3, 4, 5, 6, 7, 8] rfl
        have hD := hD.sub (ws' := [(aR, .inr (2, [.ref aX, .ref aY, .ref aZ, .ref aK, .ref aF, .ref aE, .ref aL, .int od, .int wd])), (aX, .inr (0, [.int wX, .int sX, .int tX, .ref rX, .ref kX])), (aY, .inr (0, [.int wY, .int sY, .int tY, .ref rY, .ref kY])), (aZ, .inr (0, [.int wZ, .int sZ, .int tZ, .ref rZ, .ref kZ])), (rX, .inl (cL, 81, .inr (.inl fX))), (rY, .inl (cL, 81, .inr (.inl fY))), (rZ, .inl (cL, 81, .inr (.inl fZ))), (aF, .inr (1, [.ref aH, .int (nI (n + 1))])), (aH, .inl (cL, 1001, .inr (.inl (pu_up (j_R_keyOf (((j_A_squareAt fX (nI i)) + (j_A_squareAt fY (nI j))) + (j_A_squareAt fZ (nI m9))) (j_A_numberAt fX (nI i)) (j_A_numberAt fY (nI j)) (j_A_numberAt fZ (nI m9))) (n + 1) n f))))]) [0, 1, 2, 3, 4, 5, 6, 7, 8] (by decide) rfl
        have e1 : ad_n i j m9 n = n + 1 := if_pos ⟨nu_n81 hi c_3, nu_n81 hj c_9, nu_n81 hm c_15⟩
        have e2 : ad_f (ad_key fX fY fZ i j m9) i j m9 n f = pu_up (ad_key fX fY fZ i j m9) (n + 1) n f := if_pos ⟨nu_n81 hi c_3, nu_n81 hj c_9, nu_n81 hm c_15⟩
        have hP9 : va_P (dC, dI) vwCl [(aR, .inr (2, [.ref aX, .ref aY, .ref aZ, .ref aK, .ref aF, .ref aE, .ref aL, .int od, .int wd])), (aX, .inr (0, [.int wX, .int sX, .int tX, .ref rX, .ref kX])), (aY, .inr (0, [.int wY, .int sY, .int tY, .ref rY, .ref kY])), (aZ, .inr (0, [.int wZ, .int sZ, .int tZ, .ref rZ, .ref kZ])), (rX, .inl (cL, 81, .inr (.inl fX))), (rY, .inl (cL, 81, .inr (.inl fY))), (rZ, .inl (cL, 81, .inr (.inl fZ))), (aF, .inr (1, [.ref aH, .int (nI (ad_n i j m9 n))])), (aH, .inl (cL, 1001, .inr (.inl (ad_f (ad_key fX fY fZ i j m9) i j m9 n f))))] H := by rw [e1, e2]; exact hP
        have hD9 : va_D A [(aR, .inr (2, [.ref aX, .ref aY, .ref aZ, .ref aK, .ref aF, .ref aE, .ref aL, .int od, .int wd])), (aX, .inr (0, [.int wX, .int sX, .int tX, .ref rX, .ref kX])), (aY, .inr (0, [.int wY, .int sY, .int tY, .ref rY, .ref kY])), (aZ, .inr (0, [.int wZ, .int sZ, .int tZ, .ref rZ, .ref kZ])), (rX, .inl (cL, 81, .inr (.inl fX))), (rY, .inl (cL, 81, .inr (.inl fY))), (rZ, .inl (cL, 81, .inr (.inl fZ))), (aF, .inr (1, [.ref aH, .int (nI (ad_n i j m9 n))])), (aH, .inl (cL, 1001, .inr (.inl (ad_f (ad_key fX fY fZ i j m9) i j m9 n f))))] := by rw [e1, e2]; exact hD
        exact W.vret hx hb hr (fun t ht hW => ⟨⟨(), rfl, trivial, by rw [ht]; exact hP9, hD9⟩, hS.F ht⟩) hS.2.2 d_R_addAtRanks_82

def fo_n1 (i j m n : Nat) : Nat := ad_n i j (m + 1) n
def fo_n2 (i j m n : Nat) : Nat := if m = 0 then ad_n i (j + 1) 0 (fo_n1 i j m n) else fo_n1 i j m n
def fo_n (i j m n : Nat) : Nat := if m = 0 ∧ j = 0 then ad_n (i + 1) 0 0 (fo_n2 i j m n) else fo_n2 i j m n
def fo_f1 (fX fY fZ : Nat → Int64) (i j m n : Nat) (f : Nat → Int64) : Nat → Int64 := ad_f (ad_key fX fY fZ i j (m + 1)) i j (m + 1) n f
def fo_f2 (fX fY fZ : Nat → Int64) (i j m n : Nat) (f : Nat → Int64) : Nat → Int64 := if m = 0 then ad_f (ad_key fX fY fZ i (j + 1) 0) i (j + 1) 0 (fo_n1 i j m n) (fo_f1 fX fY fZ i j m n f) else fo_f1 fX fY fZ i j m n f
def fo_f (fX fY fZ : Nat → Int64) (i j m n : Nat) (f : Nat → Int64) : Nat → Int64 := if m = 0 ∧ j = 0 then ad_f (ad_key fX fY fZ (i + 1) 0 0) (i + 1) 0 0 (fo_n2 i j m n) (fo_f2 fX fY fZ i j m n f) else fo_f2 fX fY fZ i j m n f

set_option maxHeartbeats 4000000 in
set_option maxRecDepth 100000 in
theorem c_R_addFollowers (l : Launch) (dC : Nat → ClassId) (dI : Nat → Nat → Nat) (cI cL : ClassId) (aR : Nat) (aX : Nat) (aY : Nat) (aZ : Nat) (aK : Nat) (aF : Nat) (aE : Nat) (aL : Nat) (od : Int32) (wd : Int32) (wX : Int32) (sX : Int32) (tX : Int32) (rX : Nat) (kX : Nat) (wY : Int32) (sY : Int32) (tY : Int32) (rY : Nat) (kY : Nat) (wZ : Int32) (sZ : Int32) (tZ : Int32) (rZ : Nat) (kZ : Nat) (fX : Nat → Int64) (fY : Nat → Int64) (fZ : Nat → Int64) (gX : Nat → Int32) (gY : Nat → Int32) (gZ : Nat → Int32) (aH : Nat) (n : Nat) (f : Nat → Int64) (key : Int64) (i : Nat) (j : Nat) (m9 : Nat) (sz : Nat) (hri : j_A_rankOf gX (j_R_firstNumberIn key) = nI i) (hrj : j_A_rankOf gY (j_R_secondNumberIn key) = nI j) (hrm : j_A_rankOf gZ (j_R_thirdNumberIn key) = nI m9) (hi : i < 81) (hj : j < 81) (hm : m9 < 81) (hn : n + 2 < 1001) : Met l y_R_addFollowers w_R_addFollowers ({ frames := 3, cells := 0, slots := 0, locals := 73 }) (wr_P (dC, dI) cI cL [(aR, .inr (2, [.ref aX, .ref aY, .ref aZ, .ref aK, .ref aF, .ref aE, .ref aL, .int od, .int wd])), (aX, .inr (0, [.int wX, .int sX, .int tX, .ref rX, .ref kX])), (aY, .inr (0, [.int wY, .int sY, .int tY, .ref rY, .ref kY])), (aZ, .inr (0, [.int wZ, .int sZ, .int tZ, .ref rZ, .ref kZ])), (rX, .inl (cL, 81, .inr (.inl fX))), (rY, .inl (cL, 81, .inr (.inl fY))), (rZ, .inl (cL, 81, .inr (.inl fZ))), (kX, .inl (cI, 81, .inl gX)), (kY, .inl (cI, 81, .inl gY)), (kZ, .inl (cI, 81, .inl gZ)), (aF, .inr (1, [.ref aH, .int (nI n)])), (aH, .inl (cL, 1001, .inr (.inl f)))] sz [.ref aR, .long key]) (wr_v (dC, dI) (va_A [(aR, .inr (2, [.ref aX, .ref aY, .ref aZ, .ref aK, .ref aF, .ref aE, .ref aL, .int od, .int wd])), (aX, .inr (0, [.int wX, .int sX, .int tX, .ref rX, .ref kX])), (aY, .inr (0, [.int wY, .int sY, .int tY, .ref rY, .ref kY])), (aZ, .inr (0, [.int wZ, .int sZ, .int tZ, .ref rZ, .ref kZ])), (rX, .inl (cL, 81, .inr (.inl fX))), (rY, .inl (cL, 81, .inr (.inl fY))), (rZ, .inl (cL, 81, .inr (.inl fZ))), (kX, .inl (cI, 81, .inl gX)), (kY, .inl (cI, 81, .inl gY)), (kZ, .inl (cI, 81, .inl gZ)), (aF, .inr (1, [.ref aH, .int (nI n)])), (aH, .inl (cL, 1001, .inr (.inl f)))] sz) [(aR, .inr (2, [.ref aX, .ref aY, .ref aZ, .ref aK, .ref aF, .ref aE, .ref aL, .int od, .int wd])), (aX, .inr (0, [.int wX, .int sX, .int tX, .ref rX, .ref kX])), (aY, .inr (0, [.int wY, .int sY, .int tY, .ref rY, .ref kY])), (aZ, .inr (0, [.int wZ, .int sZ, .int tZ, .ref rZ, .ref kZ])), (rX, .inl (cL, 81, .inr (.inl fX))), (rY, .inl (cL, 81, .inr (.inl fY))), (rZ, .inl (cL, 81, .inr (.inl fZ))), (kX, .inl (cI, 81, .inl gX)), (kY, .inl (cI, 81, .inl gY)), (kZ, .inl (cI, 81, .inl gZ)), (aF, .inr (1, [.ref aH, .int (nI (fo_n i j m9 n))])), (aH, .inl (cL, 1001, .inr (.inl (fo_f fX fY fZ i j m9 n f))))]) 0 0 (va_A [(aR, .inr (2, [.ref aX, .ref aY, .ref aZ, .ref aK, .ref aF, .ref aE, .ref aL, .int od, .int wd])), (aX, .inr (0, [.int wX, .int sX, .int tX, .ref rX, .ref kX])), (aY, .inr (0, [.int wY, .int sY, .int tY, .ref rY, .ref kY])), (aZ, .inr (0, [.int wZ, .int sZ, .int tZ, .ref rZ, .ref kZ])), (rX, .inl (cL, 81, .inr (.inl fX))), (rY, .inl (cL, 81, .inr (.inl fY))), (rZ, .inl (cL, 81, .inr (.inl fZ))), (kX, .inl (cI, 81, .inl gX)), (kY, .inl (cI, 81, .inl gY)), (kZ, .inl (cI, 81, .inl gZ)), (aF, .inr (1, [.ref aH, .int (nI n)])), (aH, .inl (cL, 1001, .inr (.inl f)))] sz) := by
  refine Met.ofW (cc := b_R_addFollowers) (maxL := 6) (ret := none) (by decide) rfl ?_
  intro p e s m args below meth c s₁ B hml hv
  obtain ⟨rfl, hsz, hP, hM, hD0⟩ := hv
  have hx := B.exec
  have hb := B.bytes
  have hr := B.returns
  have hts := atoms_spec (ws := w_R_addFollowers) B.pre
  have hown : s.vm.findClass "RoomEchoes" = some m.cls := findClass_of_methodNamed B.named
  have hlocks := B.notSynchronized
  have hK := hM.1
  subst hsz
  have hD := hD0.self (sz := s.heap.size)
  generalize hAe : va_A [(aR, .inr (2, [.ref aX, .ref aY, .ref aZ, .ref aK, .ref aF, .ref aE, .ref aL, .int od, .int wd])), (aX, .inr (0, [.int wX, .int sX, .int tX, .ref rX, .ref kX])), (aY, .inr (0, [.int wY, .int sY, .int tY, .ref rY, .ref kY])), (aZ, .inr (0, [.int wZ, .int sZ, .int tZ, .ref rZ, .ref kZ])), (rX, .inl (cL, 81, .inr (.inl fX))), (rY, .inl (cL, 81, .inr (.inl fY))), (rZ, .inl (cL, 81, .inr (.inl fZ))), (kX, .inl (cI, 81, .inl gX)), (kY, .inl (cI, 81, .inl gY)), (kZ, .inl (cI, 81, .inl gZ)), (aF, .inr (1, [.ref aH, .int (nI n)])), (aH, .inl (cL, 1001, .inr (.inl f)))] s.heap.size = A at hD ⊢
  have hA : ∀ q : Nat, s.heap.size ≤ q → A q := fun q h => by rw [← hAe]; exact Or.inr h
  have hS : va_S A s.heap s.heap [] := va_S.rf
  have hP : va_P (dC, dI) vwCl [(aR, .inr (2, [.ref aX, .ref aY, .ref aZ, .ref aK, .ref aF, .ref aE, .ref aL, .int od, .int wd])), (aX, .inr (0, [.int wX, .int sX, .int tX, .ref rX, .ref kX])), (aY, .inr (0, [.int wY, .int sY, .int tY, .ref rY, .ref kY])), (aZ, .inr (0, [.int wZ, .int sZ, .int tZ, .ref rZ, .ref kZ])), (rX, .inl (cL, 81, .inr (.inl fX))), (rY, .inl (cL, 81, .inr (.inl fY))), (rZ, .inl (cL, 81, .inr (.inl fZ))), (kX, .inl (cI, 81, .inl gX)), (kY, .inl (cI, 81, .inl gY)), (kZ, .inl (cI, 81, .inl gZ)), (aF, .inr (1, [.ref aH, .int (nI n)])), (aH, .inl (cL, 1001, .inr (.inl f)))] s.heap := hP
  have hl := lv_entry ([.ref aR, .long key]) (n := 6) (Nat.le_of_ble_eq_true rfl)
  rw [lg_entry_eq]
  generalize (lg_sl ([.ref aR, .long key]) ++ List.replicate (6 - (lg_sl ([.ref aR, .long key])).length) Slot.unset).toArray = ls at hl ⊢
  have hl : lv_has ls 6 [(0, .ref aR), (1, .long key)] := hl
  have b1 := ad_le i j (m9 + 1) n
  have b2 := ad_le i (j + 1) 0 (ad_n i j (m9 + 1) n)
  refine lv_aload_n hx hb d_R_addFollowers_0 rfl (lv_at hl 0 rfl) ?_
  refine va_get (D := (dC, dI)) (ci := 2) (v := .ref aX) (C := "RoomEchoes") (T := FT_R) (N := 9) hx hb hts (hi_ in_R) hown hK hP 0 rfl rfl 0 (by decide) (ht_ hts mw96) (fun _ h9 => h9) rfl d_R_addFollowers_1 ?_
  refine lv_lload_n hx hb d_R_addFollowers_4 rfl (lv_at hl 1 rfl) ?_
  refine rd_c (va_runS (As := [.long key]) (rest := [.ref aX]) ⟨hx, hb, hml, hown, hts⟩ (c_R_firstNumberIn l key) (cwS 1 hts (gi_S mw345 mw343 mw344 mw30) rfl rfl rfl (by decide +kernel) ⟨Nat.le_of_ble_eq_true rfl, Nat.le_of_ble_eq_true rfl⟩) st_S rfl rfl hl.1 rfl (lv_room (Nat.le_of_ble_eq_true rfl)) d_R_addFollowers_5 ⟨Nat.le_of_ble_eq_true rfl, Nat.le_of_ble_eq_true rfl⟩) ?_
  have hPc := hP.sub (ws' := [(aX, .inr (0, [.int wX, .int sX, .int tX, .ref rX, .ref kX])), (kX, .inl (cI, 81, .inl gX))]) [1, 7] rfl
  refine rd_c (va_runV (As := [.int (j_R_firstNumberIn key)]) (rest := []) ⟨hx, hb, hml, hown, hts⟩ (c_A_rankOf l dC dI cI cL aX wX sX tX rX kX gX (j_R_firstNumberIn key)) (cwV 1 hts (gi_V mw350 mw347 mw348 mw349 mw32) rfl rfl rfl (by decide +kernel) ⟨Nat.le_of_ble_eq_true rfl, Nat.le_of_ble_eq_true rfl⟩) (rd_V hM hPc rfl rfl rfl) rfl rfl hl.1 rfl (lv_room (Nat.le_of_ble_eq_true rfl)) d_R_addFollowers_8 ⟨Nat.le_of_ble_eq_true rfl, Nat.le_of_ble_eq_true rfl⟩) ?_
  refine tp_i (nI i) hri ?_
  refine lv_istore_n (lv' := [(3, .int (nI i)), (0, .ref aR), (1, .long key)]) hx hb d_R_addFollowers_11 rfl hl (by decide) rfl (fun ls hl => ?_)
  refine lv_aload_n hx hb d_R_addFollowers_12 rfl (lv_at hl 1 rfl) ?_
  refine va_get (D := (dC, dI)) (ci := 2) (v := .ref aY) (C := "RoomEchoes") (T := FT_R) (N := 9) hx hb hts (hi_ in_R) hown hK hP 0 rfl rfl 1 (by decide) (ht_ hts mw97) (fun _ h9 => h9) rfl d_R_addFollowers_13 ?_
  refine lv_lload_n hx hb d_R_addFollowers_16 rfl (lv_at hl 2 rfl) ?_
  refine rd_c (va_runS (As := [.long key]) (rest := [.ref aY]) ⟨hx, hb, hml, hown, hts⟩ (c_R_secondNumberIn l key) (cwS 1 hts (gi_S mw353 mw351 mw352 mw30) rfl rfl rfl (by decide +kernel) ⟨Nat.le_of_ble_eq_true rfl, Nat.le_of_ble_eq_true rfl⟩) st_S rfl rfl hl.1 rfl (lv_room (Nat.le_of_ble_eq_true rfl)) d_R_addFollowers_17 ⟨Nat.le_of_ble_eq_true rfl, Nat.le_of_ble_eq_true rfl⟩) ?_
  have hPc := hP.sub (ws' := [(aY, .inr (0, [.int wY, .int sY, .int tY, .ref rY, .ref kY])), (kY, .inl (cI, 81, .inl gY))]) [2, 8] rfl
  refine rd_c (va_runV (As := [.int (j_R_secondNumberIn key)]) (rest := []) ⟨hx, hb, hml, hown, hts⟩ (c_A_rankOf l dC dI cI cL aY wY sY tY rY kY gY (j_R_secondNumberIn key)) (cwV 1 hts (gi_V mw350 mw347 mw348 mw349 mw32) rfl rfl rfl (by decide +kernel) ⟨Nat.le_of_ble_eq_true rfl, Nat.le_of_ble_eq_true rfl⟩) (rd_V hM hPc rfl rfl rfl) rfl rfl hl.1 rfl (lv_room (Nat.le_of_ble_eq_true rfl)) d_R_addFollowers_20 ⟨Nat.le_of_ble_eq_true rfl, Nat.le_of_ble_eq_true rfl⟩) ?_
  refine tp_i (nI j) hrj ?_
  refine lv_istore (lv' := [(4, .int (nI j)), (3, .int (nI i)), (0, .ref aR), (1, .long key)]) hx hb d_R_addFollowers_23 hl (by decide) rfl (fun ls hl => ?_)
  refine lv_aload_n hx hb d_R_addFollowers_25 rfl (lv_at hl 2 rfl) ?_
  refine va_get (D := (dC, dI)) (ci := 2) (v := .ref aZ) (C := "RoomEchoes") (T := FT_R) (N := 9) hx hb hts (hi_ in_R) hown hK hP 0 rfl rfl 2 (by decide) (ht_ hts mw98) (fun _ h9 => h9) rfl d_R_addFollowers_26 ?_
  refine lv_lload_n hx hb d_R_addFollowers_29 rfl (lv_at hl 3 rfl) ?_
  refine rd_c (va_runS (As := [.long key]) (rest := [.ref aZ]) ⟨hx, hb, hml, hown, hts⟩ (c_R_thirdNumberIn l key) (cwS 1 hts (gi_S mw356 mw354 mw355 mw30) rfl rfl rfl (by decide +kernel) ⟨Nat.le_of_ble_eq_true rfl, Nat.le_of_ble_eq_true rfl⟩) st_S rfl rfl hl.1 rfl (lv_room (Nat.le_of_ble_eq_true rfl)) d_R_addFollowers_30 ⟨Nat.le_of_ble_eq_true rfl, Nat.le_of_ble_eq_true rfl⟩) ?_
  have hPc := hP.sub (ws' := [(aZ, .inr (0, [.int wZ, .int sZ, .int tZ, .ref rZ, .ref kZ])), (kZ, .inl (cI, 81, .inl gZ))]) [3, 9] rfl
  refine rd_c (va_runV (As := [.int (j_R_thirdNumberIn key)]) (rest := []) ⟨hx, hb, hml, hown, hts⟩ (c_A_rankOf l dC dI cI cL aZ wZ sZ tZ rZ kZ gZ (j_R_thirdNumberIn key)) (cwV 1 hts (gi_V mw350 mw347 mw348 mw349 mw32) rfl rfl rfl (by decide +kernel) ⟨Nat.le_of_ble_eq_true rfl, Nat.le_of_ble_eq_true rfl⟩) (rd_V hM hPc rfl rfl rfl) rfl rfl hl.1 rfl (lv_room (Nat.le_of_ble_eq_true rfl)) d_R_addFollowers_33 ⟨Nat.le_of_ble_eq_true rfl, Nat.le_of_ble_eq_true rfl⟩) ?_
  refine tp_i (nI m9) hrm ?_
  refine lv_istore (lv' := [(5, .int (nI m9)), (4, .int (nI j)), (3, .int (nI i)), (0, .ref aR), (1, .long key)]) hx hb d_R_addFollowers_36 hl (by decide) rfl (fun ls hl => ?_)
  refine lv_aload_n hx hb d_R_addFollowers_38 rfl (lv_at hl 3 rfl) ?_
  refine lv_iload_n hx hb d_R_addFollowers_39 rfl (lv_at hl 2 rfl) ?_
  refine lv_iload hx hb d_R_addFollowers_40 (lv_at hl 1 rfl) ?_
  refine lv_iload hx hb d_R_addFollowers_42 (lv_at hl 0 rfl) ?_
  refine lv_iconst (v := 1) hx hb d_R_addFollowers_44 (by decide) ?_
  refine lv_iadd hx hb d_R_addFollowers_45 ?_
  refine tp_i (nI (m9 + 1)) (nI_1 m9) ?_
  have hPc := hP.sub (ws' := [(aR, .inr (2, [.ref aX, .ref aY, .ref aZ, .ref aK, .ref aF, .ref aE, .ref aL, .int od, .int wd])), (aX, .inr (0, [.int wX, .int sX, .int tX, .ref rX, .ref kX])), (aY, .inr (0, [.int wY, .int sY, .int tY, .ref rY, .ref kY])), (aZ, .inr (0, [.int wZ, .int sZ, .int tZ, .ref rZ, .ref kZ])), (rX, .inl (cL, 81, .inr (.inl fX))), (rY, .inl (cL, 81, .inr (.inl fY))), (rZ, .inl (cL, 81, .inr (.inl fZ))), (aF, .inr (1, [.ref aH, .int (nI n)])), (aH, .inl (cL, 1001, .inr (.inl f)))]) [0, 1, 2, 3, 4, 5, 6, 10, 11] rfl
  have hDc := hD.sub (ws' := [(aR, .inr (2, [.ref aX, .ref aY, .ref aZ, .ref aK, .ref aF, .ref aE, .ref aL, .int od, .int wd])), (aX, .inr (0, [.int wX, .int sX, .int tX, .ref rX, .ref kX])), (aY, .inr (0, [.int wY, .int sY, .int tY, .ref rY, .ref kY])), (aZ, .inr (0, [.int wZ, .int sZ, .int tZ, .ref rZ, .ref kZ])), (rX, .inl (cL, 81, .inr (.inl fX))), (rY, .inl (cL, 81, .inr (.inl fY))), (rZ, .inl (cL, 81, .inr (.inl fZ))), (aF, .inr (1, [.ref aH, .int (nI n)])), (aH, .inl (cL, 1001, .inr (.inl f)))]) [0, 1, 2, 3, 4, 5, 6, 10, 11] (by decide) rfl
  refine wr_cv (wr := [(kX, .inl (cI, 81, .inl gX)), (kY, .inl (cI, 81, .inl gY)), (kZ, .inl (cI, 81, .inl gZ))]) (w1 := [(aR, .inr (2, [.ref aX, .ref aY, .ref aZ, .ref aK, .ref aF, .ref aE, .ref aL, .int od, .int wd])), (aX, .inr (0, [.int wX, .int sX, .int tX, .ref rX, .ref kX])), (aY, .inr (0, [.int wY, .int sY, .int tY, .ref rY, .ref kY])), (aZ, .inr (0, [.int wZ, .int sZ, .int tZ, .ref rZ, .ref kZ])), (rX, .inl (cL, 81, .inr (.inl fX))), (rY, .inl (cL, 81, .inr (.inl fY))), (rZ, .inl (cL, 81, .inr (.inl fZ))), (aF, .inr (1, [.ref aH, .int (nI (ad_n i j (m9 + 1) n))])), (aH, .inl (cL, 1001, .inr (.inl (ad_f (ad_key fX fY fZ i j (m9 + 1)) i j (m9 + 1) n f))))]) hP hD hS hA [0, 1, 2, 3, 4, 5, 6, 10, 11] [7, 8, 9] rfl rfl (by decide) (by decide) (va_runV (As := [.int (nI i), .int (nI j), .int (nI (m9 + 1))]) (rest := []) ⟨hx, hb, hml, hown, hts⟩ (c_R_addAtRanks l dC dI cI cL aR aX aY aZ aK aF aE aL od wd wX sX tX rX kX wY sY tY rY kY wZ sZ tZ rZ kZ fX fY fZ aH n f i j (m9 + 1) _ (by omega) (by omega) (by omega) (by omega)) (cwV 3 hts (gi_V mw313 mw310 mw312 mw8 mw30) rfl rfl rfl (by decide +kernel) ⟨Nat.le_of_ble_eq_true rfl, Nat.le_of_ble_eq_true rfl⟩) (wr_V hM hPc hDc rfl rfl rfl) rfl rfl hl.1 rfl (lv_room (Nat.le_of_ble_eq_true rfl)) d_R_addFollowers_46 ⟨Nat.le_of_ble_eq_true rfl, Nat.le_of_ble_eq_true rfl⟩) (fun H locs hP hD hS => ?_)
  have hP := hP.sub (ws' := [(aR, .inr (2, [.ref aX, .ref aY, .ref aZ, .ref aK, .ref aF, .ref aE, .ref aL, .int od, .int wd])), (aX, .inr (0, [.int wX, .int sX, .int tX, .ref rX, .ref kX])), (aY, .inr (0, [.int wY, .int sY, .int tY, .ref rY, .ref kY])), (aZ, .inr (0, [.int wZ, .int sZ, .int tZ, .ref rZ, .ref kZ])), (rX, .inl (cL, 81, .inr (.inl fX))), (rY, .inl (cL, 81, .inr (.inl fY))), (rZ, .inl (cL, 81, .inr (.inl fZ))), (kX, .inl (cI, 81, .inl gX)), (kY, .inl (cI, 81, .inl gY)), (kZ, .inl (cI, 81, .inl gZ)), (aF, .inr (1, [.ref aH, .int (nI (ad_n i j (m9 + 1) n))])), (aH, .inl (cL, 1001, .inr (.inl (ad_f (ad_key fX fY fZ i j (m9 + 1)) i j (m9 + 1) n f))))]) [3, 4, 5, 6, 7, 8, 9, 0, 1, 2, 10, 11] rfl
  have hD := hD.sub (ws' := [(aR, .inr (2, [.ref aX, .ref aY, .ref aZ, .ref aK, .ref aF, .ref aE, .ref aL, .int od, .int wd])), (aX, .inr (0, [.int wX, .int sX, .int tX, .ref rX, .ref kX])), (aY, .inr (0, [.int wY, .int sY, .int tY, .ref rY, .ref kY])), (aZ, .inr (0, [.int wZ, .int sZ, .int tZ, .ref rZ, .ref kZ])), (rX, .inl (cL, 81, .inr (.inl fX))), (rY, .inl (cL, 81, .inr (.inl fY))), (rZ, .inl (cL, 81, .inr (.inl fZ))), (kX, .inl (cI, 81, .inl gX)), (kY, .inl (cI, 81, .inl gY)), (kZ, .inl (cI, 81, .inl gZ)), (aF, .inr (1, [.ref aH, .int (nI (ad_n i j (m9 + 1) n))])), (aH, .inl (cL, 1001, .inr (.inl (ad_f (ad_key fX fY fZ i j (m9 + 1)) i j (m9 + 1) n f))))]) [3, 4, 5, 6, 7, 8, 9, 0, 1, 2, 10, 11] (by decide) rfl
  refine lv_iload hx hb d_R_addFollowers_49 (lv_at hl 0 rfl) ?_
  refine lv_if_ne (tgt := 64) hx hb d_R_addFollowers_51 (by decide) (fun c_51 => ?_) (fun c_51 => ?_)
  · skip
    refine lv_iload hx hb d_R_addFollowers_64 (lv_at hl 0 rfl) ?_
    refine lv_if_ne (tgt := 83) hx hb d_R_addFollowers_66 (by decide) (fun c_66 => ?_) (fun c_66 => ?_)
    · skip
      have m0 : m9 ≠ 0 := nu_nz c_51
      have hP9 : va_P (dC, dI) vwCl [(aR, .inr (2, [.ref aX, .ref aY, .ref aZ, .ref aK, .ref aF, .ref aE, .ref aL, .int od, .int wd])), (aX, .inr (0, [.int wX, .int sX, .int tX, .ref rX, .ref kX])), (aY, .inr (0, [.int wY, .int sY, .int tY, .ref rY, .ref kY])), (aZ, .inr (0, [.int wZ, .int sZ, .int tZ, .ref rZ, .ref kZ])), (rX, .inl (cL, 81, .inr (.inl fX))), (rY, .inl (cL, 81, .inr (.inl fY))), (rZ, .inl (cL, 81, .inr (.inl fZ))), (kX, .inl (cI, 81, .inl gX)), (kY, .inl (cI, 81, .inl gY)), (kZ, .inl (cI, 81, .inl gZ)), (aF, .inr (1, [.ref aH, .int (nI (fo_n i j m9 n))])), (aH, .inl (cL, 1001, .inr (.inl (fo_f fX fY fZ i j m9 n f))))] H := by rw [fo_n, fo_f, if_neg (fun q => m0 q.1), if_neg (fun q => m0 q.1), fo_n2, fo_f2, if_neg m0, if_neg m0]; exact hP
      have hD9 : va_D A [(aR, .inr (2, [.ref aX, .ref aY, .ref aZ, .ref aK, .ref aF, .ref aE, .ref aL, .int od, .int wd])), (aX, .inr (0, [.int wX, .int sX, .int tX, .ref rX, .ref kX])), (aY, .inr (0, [.int wY, .int sY, .int tY, .ref rY, .ref kY])), (aZ, .inr (0, [.int wZ, .int sZ, .int tZ, .ref rZ, .ref kZ])), (rX, .inl (cL, 81, .inr (.inl fX))), (rY, .inl (cL, 81, .inr (.inl fY))), (rZ, .inl (cL, 81, .inr (.inl fZ))), (kX, .inl (cI, 81, .inl gX)), (kY, .inl (cI, 81, .inl gY)), (kZ, .inl (cI, 81, .inl gZ)), (aF, .inr (1, [.ref aH, .int (nI (fo_n i j m9 n))])), (aH, .inl (cL, 1001, .inr (.inl (fo_f fX fY fZ i j m9 n f))))] := by rw [fo_n, fo_f, if_neg (fun q => m0 q.1), if_neg (fun q => m0 q.1), fo_n2, fo_f2, if_neg m0, if_neg m0]; exact hD
      exact W.vret hx hb hr (fun t ht hW => ⟨⟨(), rfl, trivial, by rw [ht]; exact hP9, hD9⟩, hS.F ht⟩) hS.2.2 d_R_addFollowers_83
    · skip
      exact absurd c_66 c_51
  · skip
    refine lv_aload_n hx hb d_R_addFollowers_54 rfl (lv_at hl 3 rfl) ?_
    refine lv_iload_n hx hb d_R_addFollowers_55 rfl (lv_at hl 2 rfl) ?_
    refine lv_iload hx hb d_R_addFollowers_56 (lv_at hl 1 rfl) ?_
    refine lv_iconst (v := 1) hx hb d_R_addFollowers_58 (by decide) ?_
    refine lv_iadd hx hb d_R_addFollowers_59 ?_
    refine tp_i (nI (j + 1)) (nI_1 j) ?_
    refine lv_iconst (v := 0) hx hb d_R_addFollowers_60 (by decide) ?_
    have hPc := hP.sub (ws' := [(aR, .inr (2, [.ref aX, .ref aY, .ref aZ, .ref aK, .ref aF, .ref aE, .ref aL, .int od, .int wd])), (aX, .inr (0, [.int wX, .int sX, .int tX, .ref rX, .ref kX])), (aY, .inr (0, [.int wY, .int sY, .int tY, .ref rY, .ref kY])), (aZ, .inr (0, [.int wZ, .int sZ, .int tZ, .ref rZ, .ref kZ])), (rX, .inl (cL, 81, .inr (.inl fX))), (rY, .inl (cL, 81, .inr (.inl fY))), (rZ, .inl (cL, 81, .inr (.inl fZ))), (aF, .inr (1, [.ref aH, .int (nI (ad_n i j (m9 + 1) n))])), (aH, .inl (cL, 1001, .inr (.inl (ad_f (ad_key fX fY fZ i j (m9 + 1)) i j (m9 + 1) n f))))]) [0, 1, 2, 3, 4, 5, 6, 10, 11] rfl
    have hDc := hD.sub (ws' := [(aR, .inr (2, [.ref aX, .ref aY, .ref aZ, .ref aK, .ref aF, .ref aE, .ref aL, .int od, .int wd])), (aX, .inr (0, [.int wX, .int sX, .int tX, .ref rX, .ref kX])), (aY, .inr (0, [.int wY, .int sY, .int tY, .ref rY, .ref kY])), (aZ, .inr (0, [.int wZ, .int sZ, .int tZ, .ref rZ, .ref kZ])), (rX, .inl (cL, 81, .inr (.inl fX))), (rY, .inl (cL, 81, .inr (.inl fY))), (rZ, .inl (cL, 81, .inr (.inl fZ))), (aF, .inr (1, [.ref aH, .int (nI (ad_n i j (m9 + 1) n))])), (aH, .inl (cL, 1001, .inr (.inl (ad_f (ad_key fX fY fZ i j (m9 + 1)) i j (m9 + 1) n f))))]) [0, 1, 2, 3, 4, 5, 6, 10, 11] (by decide) rfl
    refine wr_cv (wr := [(kX, .inl (cI, 81, .inl gX)), (kY, .inl (cI, 81, .inl gY)), (kZ, .inl (cI, 81, .inl gZ))]) (w1 := [(aR, .inr (2, [.ref aX, .ref aY, .ref aZ, .ref aK, .ref aF, .ref aE, .ref aL, .int od, .int wd])), (aX, .inr (0, [.int wX, .int sX, .int tX, .ref rX, .ref kX])), (aY, .inr (0, [.int wY, .int sY, .int tY, .ref rY, .ref kY])), (aZ, .inr (0, [.int wZ, .int sZ, .int tZ, .ref rZ, .ref kZ])), (rX, .inl (cL, 81, .inr (.inl fX))), (rY, .inl (cL, 81, .inr (.inl fY))), (rZ, .inl (cL, 81, .inr (.inl fZ))), (aF, .inr (1, [.ref aH, .int (nI (ad_n i (j + 1) 0 (ad_n i j (m9 + 1) n)))])), (aH, .inl (cL, 1001, .inr (.inl (ad_f (ad_key fX fY fZ i (j + 1) 0) i (j + 1) 0 (ad_n i j (m9 + 1) n) (ad_f (ad_key fX fY fZ i j (m9 + 1)) i j (m9 + 1) n f)))))]) hP hD hS hA [0, 1, 2, 3, 4, 5, 6, 10, 11] [7, 8, 9] rfl rfl (by decide) (by decide) (va_runV (As := [.int (nI i), .int (nI (j + 1)), .int 0]) (rest := []) ⟨hx, hb, hml, hown, hts⟩ (c_R_addAtRanks l dC dI cI cL aR aX aY aZ aK aF aE aL od wd wX sX tX rX kX wY sY tY rY kY wZ sZ tZ rZ kZ fX fY fZ aH (ad_n i j (m9 + 1) n) (ad_f (ad_key fX fY fZ i j (m9 + 1)) i j (m9 + 1) n f) i (j + 1) 0 _ (by omega) (by omega) (by omega) (by omega)) (cwV 3 hts (gi_V mw313 mw310 mw312 mw8 mw30) rfl rfl rfl (by decide +kernel) ⟨Nat.le_of_ble_eq_true rfl, Nat.le_of_ble_eq_true rfl⟩) (wr_V hM hPc hDc rfl rfl rfl) rfl rfl hl.1 rfl (lv_room (Nat.le_of_ble_eq_true rfl)) d_R_addFollowers_61 ⟨Nat.le_of_ble_eq_true rfl, Nat.le_of_ble_eq_true rfl⟩) (fun H locs hP hD hS => ?_)
    have hP := hP.sub (ws' := [(aR, .inr (2, [.ref aX, .ref aY, .ref aZ, .ref aK, .ref aF, .ref aE, .ref aL, .int od, .int wd])), (aX, .inr (0, [.int wX, .int sX, .int tX, .ref rX, .ref kX])), (aY, .inr (0, [.int wY, .int sY, .int tY, .ref rY, .ref kY])), (aZ, .inr (0, [.int wZ, .int sZ, .int tZ, .ref rZ, .ref kZ])), (rX, .inl (cL, 81, .inr (.inl fX))), (rY, .inl (cL, 81, .inr (.inl fY))), (rZ, .inl (cL, 81, .inr (.inl fZ))), (kX, .inl (cI, 81, .inl gX)), (kY, .inl (cI, 81, .inl gY)), (kZ, .inl (cI, 81, .inl gZ)), (aF, .inr (1, [.ref aH, .int (nI (ad_n i (j + 1) 0 (ad_n i j (m9 + 1) n)))])), (aH, .inl (cL, 1001, .inr (.inl (ad_f (ad_key fX fY fZ i (j + 1) 0) i (j + 1) 0 (ad_n i j (m9 + 1) n) (ad_f (ad_key fX fY fZ i j (m9 + 1)) i j (m9 + 1) n f)))))]) [3, 4, 5, 6, 7, 8, 9, 0, 1, 2, 10, 11] rfl
    have hD := hD.sub (ws' := [(aR, .inr (2, [.ref aX, .ref aY, .ref aZ, .ref aK, .ref aF, .ref aE, .ref aL, .int od, .int wd])), (aX, .inr (0, [.int wX, .int sX, .int tX, .ref rX, .ref kX])), (aY, .inr (0, [.int wY, .int sY, .int tY, .ref rY, .ref kY])), (aZ, .inr (0, [.int wZ, .int sZ, .int tZ, .ref rZ, .ref kZ])), (rX, .inl (cL, 81, .inr (.inl fX))), (rY, .inl (cL, 81, .inr (.inl fY))), (rZ, .inl (cL, 81, .inr (.inl fZ))), (kX, .inl (cI, 81, .inl gX)), (kY, .inl (cI, 81, .inl gY)), (kZ, .inl (cI, 81, .inl gZ)), (aF, .inr (1, [.ref aH, .int (nI (ad_n i (j + 1) 0 (ad_n i j (m9 + 1) n)))])), (aH, .inl (cL, 1001, .inr (.inl (ad_f (ad_key fX fY fZ i (j + 1) 0) i (j + 1) 0 (ad_n i j (m9 + 1) n) (ad_f (ad_key fX fY fZ i j (m9 + 1)) i j (m9 + 1) n f)))))]) [3, 4, 5, 6, 7, 8, 9, 0, 1, 2, 10, 11] (by decide) rfl
    refine lv_iload hx hb d_R_addFollowers_64 (lv_at hl 0 rfl) ?_
    refine lv_if_ne (tgt := 83) hx hb d_R_addFollowers_66 (by decide) (fun c_66 => ?_) (fun c_66 => ?_)
    · skip
      exact absurd c_51 c_66
    · skip
      refine lv_iload hx hb d_R_addFollowers_69 (lv_at hl 1 rfl) ?_
      refine lv_if_ne (tgt := 83) hx hb d_R_addFollowers_71 (by decide) (fun c_71 => ?_) (fun c_71 => ?_)
      · skip
        have m0 : m9 = 0 := nu_z (by omega) c_51
        have hP9 : va_P (dC, dI) vwCl [(aR, .inr (2, [.ref aX, .ref aY, .ref aZ, .ref aK, .ref aF, .ref aE, .ref aL, .int od, .int wd])), (aX, .inr (0, [.int wX, .int sX, .int tX, .ref rX, .ref kX])), (aY, .inr (0, [.int wY, .int sY, .int tY, .ref rY, .ref kY])), (aZ, .inr (0, [.int wZ, .int sZ, .int tZ, .ref rZ, .ref kZ])), (rX, .inl (cL, 81, .inr (.inl fX))), (rY, .inl (cL, 81, .inr (.inl fY))), (rZ, .inl (cL, 81, .inr (.inl fZ))), (kX, .inl (cI, 81, .inl gX)), (kY, .inl (cI, 81, .inl gY)), (kZ, .inl (cI, 81, .inl gZ)), (aF, .inr (1, [.ref aH, .int (nI (fo_n i j m9 n))])), (aH, .inl (cL, 1001, .inr (.inl (fo_f fX fY fZ i j m9 n f))))] H := by rw [fo_n, fo_f, if_neg (fun q => nu_nz c_71 q.2), if_neg (fun q => nu_nz c_71 q.2), fo_n2, fo_f2, if_pos m0, if_pos m0]; exact hP
        have hD9 : va_D A [(aR, .inr (2, [.ref aX, .ref aY, .ref aZ, .ref aK, .ref aF, .ref aE, .ref aL, .int od, .int wd])), (aX, .inr (0, [.int wX, .int sX, .int tX, .ref rX, .ref kX])), (aY, .inr (0, [.int wY, .int sY, .int tY, .ref rY, .ref kY])), (aZ, .inr (0, [.int wZ, .int sZ, .int tZ, .ref rZ, .ref kZ])), (rX, .inl (cL, 81, .inr (.inl fX))), (rY, .inl (cL, 81, .inr (.inl fY))), (rZ, .inl (cL, 81, .inr (.inl fZ))), (kX, .inl (cI, 81, .inl gX)), (kY, .inl (cI, 81, .inl gY)), (kZ, .inl (cI, 81, .inl gZ)), (aF, .inr (1, [.ref aH, .int (nI (fo_n i j m9 n))])), (aH, .inl (cL, 1001, .inr (.inl (fo_f fX fY fZ i j m9 n f))))] := by rw [fo_n, fo_f, if_neg (fun q => nu_nz c_71 q.2), if_neg (fun q => nu_nz c_71 q.2), fo_n2, fo_f2, if_pos m0, if_pos m0]; exact hD
        exact W.vret hx hb hr (fun t ht hW => ⟨⟨(), rfl, trivial, by rw [ht]; exact hP9, hD9⟩, hS.F ht⟩) hS.2.2 d_R_addFollowers_83
      · skip
        refine lv_aload_n hx hb d_R_addFollowers_74 rfl (lv_at hl 3 rfl) ?_
        refine lv_iload_n hx hb d_R_addFollowers_75 rfl (lv_at hl 2 rfl) ?_
        refine lv_iconst (v := 1) hx hb d_R_addFollowers_76 (by decide) ?_
        refine lv_iadd hx hb d_R_addFollowers_77 ?_
        refine tp_i (nI (i + 1)) (nI_1 i) ?_
        refine lv_iconst (v := 0) hx hb d_R_addFollowers_78 (by decide) ?_
        refine lv_iconst (v := 0) hx hb d_R_addFollowers_79 (by decide) ?_
        have hPc := hP.sub (ws' := [(aR, .inr (2, [.ref aX, .ref aY, .ref aZ, .ref aK, .ref aF, .ref aE, .ref aL, .int od, .int wd])), (aX, .inr (0, [.int wX, .int sX, .int tX, .ref rX, .ref kX])), (aY, .inr (0, [.int wY, .int sY, .int tY, .ref rY, .ref kY])), (aZ, .inr (0, [.int wZ, .int sZ, .int tZ, .ref rZ, .ref kZ])), (rX, .inl (cL, 81, .inr (.inl fX))), (rY, .inl (cL, 81, .inr (.inl fY))), (rZ, .inl (cL, 81, .inr (.inl fZ))), (aF, .inr (1, [.ref aH, .int (nI (ad_n i (j + 1) 0 (ad_n i j (m9 + 1) n)))])), (aH, .inl (cL, 1001, .inr (.inl (ad_f (ad_key fX fY fZ i (j + 1) 0) i (j + 1) 0 (ad_n i j (m9 + 1) n) (ad_f (ad_key fX fY fZ i j (m9 + 1)) i j (m9 + 1) n f)))))]) [0, 1, 2, 3, 4, 5, 6, 10, 11] rfl
        have hDc := hD.sub (ws' := [(aR, .inr (2, [.ref aX, .ref aY, .ref aZ, .ref aK, .ref aF, .ref aE, .ref aL, .int od, .int wd])), (aX, .inr (0, [.int wX, .int sX, .int tX, .ref rX, .ref kX])), (aY, .inr (0, [.int wY, .int sY, .int tY, .ref rY, .ref kY])), (aZ, .inr (0, [.int wZ, .int sZ, .int tZ, .ref rZ, .ref kZ])), (rX, .inl (cL, 81, .inr (.inl fX))), (rY, .inl (cL, 81, .inr (.inl fY))), (rZ, .inl (cL, 81, .inr (.inl fZ))), (aF, .inr (1, [.ref aH, .int (nI (ad_n i (j + 1) 0 (ad_n i j (m9 + 1) n)))])), (aH, .inl (cL, 1001, .inr (.inl (ad_f (ad_key fX fY fZ i (j + 1) 0) i (j + 1) 0 (ad_n i j (m9 + 1) n) (ad_f (ad_key fX fY fZ i j (m9 + 1)) i j (m9 + 1) n f)))))]) [0, 1, 2, 3, 4, 5, 6, 10, 11] (by decide) rfl
        refine wr_cv (wr := [(kX, .inl (cI, 81, .inl gX)), (kY, .inl (cI, 81, .inl gY)), (kZ, .inl (cI, 81, .inl gZ))]) (w1 := [(aR, .inr (2, [.ref aX, .ref aY, .ref aZ, .ref aK, .ref aF, .ref aE, .ref aL, .int od, .int wd])), (aX, .inr (0, [.int wX, .int sX, .int tX, .ref rX, .ref kX])), (aY, .inr (0, [.int wY, .int sY, .int tY, .ref rY, .ref kY])), (aZ, .inr (0, [.int wZ, .int sZ, .int tZ, .ref rZ, .ref kZ])), (rX, .inl (cL, 81, .inr (.inl fX))), (rY, .inl (cL, 81, .inr (.inl fY))), (rZ, .inl (cL, 81, .inr (.inl fZ))), (aF, .inr (1, [.ref aH, .int (nI (ad_n (i + 1) 0 0 (ad_n i (j + 1) 0 (ad_n i j (m9 + 1) n))))])), (aH, .inl (cL, 1001, .inr (.inl (ad_f (ad_key fX fY fZ (i + 1) 0 0) (i + 1) 0 0 (ad_n i (j + 1) 0 (ad_n i j (m9 + 1) n)) (ad_f (ad_key fX fY fZ i (j + 1) 0) i (j + 1) 0 (ad_n i j (m9 + 1) n) (ad_f (ad_key fX fY fZ i j (m9 + 1)) i j (m9 + 1) n f))))))]) hP hD hS hA [0, 1, 2, 3, 4, 5, 6, 10, 11] [7, 8, 9] rfl rfl (by decide) (by decide) (va_runV (As := [.int (nI (i + 1)), .int 0, .int 0]) (rest := []) ⟨hx, hb, hml, hown, hts⟩ (c_R_addAtRanks l dC dI cI cL aR aX aY aZ aK aF aE aL od wd wX sX tX rX kX wY sY tY rY kY wZ sZ tZ rZ kZ fX fY fZ aH (ad_n i (j + 1) 0 (ad_n i j (m9 + 1) n)) (ad_f (ad_key fX fY fZ i (j + 1) 0) i (j + 1) 0 (ad_n i j (m9 + 1) n) (ad_f (ad_key fX fY fZ i j (m9 + 1)) i j (m9 + 1) n f)) (i + 1) 0 0 _ (by omega) (by omega) (by omega) (by omega)) (cwV 3 hts (gi_V mw313 mw310 mw312 mw8 mw30) rfl rfl rfl (by decide +kernel) ⟨Nat.le_of_ble_eq_true rfl, Nat.le_of_ble_eq_true rfl⟩) (wr_V hM hPc hDc rfl rfl rfl) rfl rfl hl.1 rfl (lv_room (Nat.le_of_ble_eq_true rfl)) d_R_addFollowers_80 ⟨Nat.le_of_ble_eq_true rfl, Nat.le_of_ble_eq_true rfl⟩) (fun H locs hP hD hS => ?_)
        have hP := hP.sub (ws' := [(aR, .inr (2, [.ref aX, .ref aY, .ref aZ, .ref aK, .ref aF, .ref aE, .ref aL, .int od, .int wd])), (aX, .inr (0, [.int wX, .int sX, .int tX, .ref rX, .ref kX])), (aY, .inr (0, [.int wY, .int sY, .int tY, .ref rY, .ref kY])), (aZ, .inr (0, [.int wZ, .int sZ, .int tZ, .ref rZ, .ref kZ])), (rX, .inl (cL, 81, .inr (.inl fX))), (rY, .inl (cL, 81, .inr (.inl fY))), (rZ, .inl (cL, 81, .inr (.inl fZ))), (kX, .inl (cI, 81, .inl gX)), (kY, .inl (cI, 81, .inl gY)), (kZ, .inl (cI, 81, .inl gZ)), (aF, .inr (1, [.ref aH, .int (nI (ad_n (i + 1) 0 0 (ad_n i (j + 1) 0 (ad_n i j (m9 + 1) n))))])), (aH, .inl (cL, 1001, .inr (.inl (ad_f (ad_key fX fY fZ (i + 1) 0 0) (i + 1) 0 0 (ad_n i (j + 1) 0 (ad_n i j (m9 + 1) n)) (ad_f (ad_key fX fY fZ i (j + 1) 0) i (j + 1) 0 (ad_n i j (m9 + 1) n) (ad_f (ad_key fX fY fZ i j (m9 + 1)) i j (m9 + 1) n f))))))]) [3, 4, 5, 6, 7, 8, 9, 0, 1, 2, 10, 11] rfl
        have hD := hD.sub (ws' := [(aR, .inr (2, [.ref aX, .ref aY, .ref aZ, .ref aK, .ref aF, .ref aE, .ref aL, .int od, .int wd])), (aX, .inr (0, [.int wX, .int sX, .int tX, .ref rX, .ref kX])), (aY, .inr (0, [.int wY, .int sY, .int tY, .ref rY, .ref kY])), (aZ, .inr (0, [.int wZ, .int sZ, .int tZ, .ref rZ, .ref kZ])), (rX, .inl (cL, 81, .inr (.inl fX))), (rY, .inl (cL, 81, .inr (.inl fY))), (rZ, .inl (cL, 81, .inr (.inl fZ))), (kX, .inl (cI, 81, .inl gX)), (kY, .inl (cI, 81, .inl gY)), (kZ, .inl (cI, 81, .inl gZ)), (aF, .inr (1, [.ref aH, .int (nI (ad_n (i + 1) 0 0 (ad_n i (j + 1) 0 (ad_n i j (m9 + 1) n))))])), (aH, .inl (cL, 1001, .inr (.inl (ad_f (ad_key fX fY fZ (i + 1) 0 0) (i + 1) 0 0 (ad_n i (j + 1) 0 (ad_n i j (m9 + 1) n)) (ad_f (ad_key fX fY fZ i (j + 1) 0) i (j + 1) 0 (ad_n i j (m9 + 1) n) (ad_f (ad_key fX fY fZ i j (m9 + 1)) i j (m9 + 1) n f))))))]) [3, 4, 5, 6, 7, 8, 9, 0, 1, 2, 10, 11] (by decide) rfl
        have m0 : m9 = 0 := nu_z (by omega) c_51
        have hP9 : va_P (dC, dI) vwCl [(aR, .inr (2, [.ref aX, .ref aY, .ref aZ, .ref aK, .ref aF, .ref aE, .ref aL, .int od, .int wd])), (aX, .inr (0, [.int wX, .int sX, .int tX, .ref rX, .ref kX])), (aY, .inr (0, [.int wY, .int sY, .int tY, .ref rY, .ref kY])), (aZ, .inr (0, [.int wZ, .int sZ, .int tZ, .ref rZ, .ref kZ])), (rX, .inl (cL, 81, .inr (.inl fX))), (rY, .inl (cL, 81, .inr (.inl fY))), (rZ, .inl (cL, 81, .inr (.inl fZ))), (kX, .inl (cI, 81, .inl gX)), (kY, .inl (cI, 81, .inl gY)), (kZ, .inl (cI, 81, .inl gZ)), (aF, .inr (1, [.ref aH, .int (nI (fo_n i j m9 n))])), (aH, .inl (cL, 1001, .inr (.inl (fo_f fX fY fZ i j m9 n f))))] H := by rw [fo_n, fo_f, if_pos ⟨m0, nu_z (by omega) c_71⟩, if_pos ⟨m0, nu_z (by omega) c_71⟩, fo_n2, fo_f2, if_pos m0, if_pos m0]; exact hP
        have hD9 : va_D A [(aR, .inr (2, [.ref aX, .ref aY, .ref aZ, .ref aK, .ref aF, .ref aE, .ref aL, .int od, .int wd])), (aX, .inr (0, [.int wX, .int sX, .int tX, .ref rX, .ref kX])), (aY, .inr (0, [.int wY, .int sY, .int tY, .ref rY, .ref kY])), (aZ, .inr (0, [.int wZ, .int sZ, .int tZ, .ref rZ, .ref kZ])), (rX, .inl (cL, 81, .inr (.inl fX))), (rY, .inl (cL, 81, .inr (.inl fY))), (rZ, .inl (cL, 81, .inr (.inl fZ))), (kX, .inl (cI, 81, .inl gX)), (kY, .inl (cI, 81, .inl gY)), (kZ, .inl (cI, 81, .inl gZ)), (aF, .inr (1, [.ref aH, .int (nI (fo_n i j m9 n))])), (aH, .inl (cL, 1001, .inr (.inl (fo_f fX fY fZ i j m9 n f))))] := by rw [fo_n, fo_f, if_pos ⟨m0, nu_z (by omega) c_71⟩, if_pos ⟨m0, nu_z (by omega) c_71⟩, fo_n2, fo_f2, if_pos m0, if_pos m0]; exact hD
        exact W.vret hx hb hr (fun t ht hW => ⟨⟨(), rfl, trivial, by rw [ht]; exact hP9, hD9⟩, hS.F ht⟩) hS.2.2 d_R_addFollowers_83
end
section
/-! PURE: numbers of the machine as whole numbers; an axis's keys. -/
theorem bm32 {x : Int} (h1 : -2147483648 ≤ x) (h2 : x < 2147483648) : x.bmod 4294967296 = x := by
  rw [Int.bmod_def]
  split <;> omega
theorem bm64 {x : Int} (h1 : -9223372036854775808 ≤ x) (h2 : x < 9223372036854775808) : x.bmod 18446744073709551616 = x := by
  rw [Int.bmod_def]
  split <;> omega
theorem i_add {a b : Int32} (h1 : -2147483648 ≤ a.toInt + b.toInt) (h2 : a.toInt + b.toInt < 2147483648) : (a + b).toInt = a.toInt + b.toInt := by rw [Int32.toInt_add]; exact bm32 h1 h2
theorem i_sub {a b : Int32} (h1 : -2147483648 ≤ a.toInt - b.toInt) (h2 : a.toInt - b.toInt < 2147483648) : (a - b).toInt = a.toInt - b.toInt := by rw [Int32.toInt_sub]; exact bm32 h1 h2
theorem i_mul {a b : Int32} (h1 : -2147483648 ≤ a.toInt * b.toInt) (h2 : a.toInt * b.toInt < 2147483648) : (a * b).toInt = a.toInt * b.toInt := by rw [Int32.toInt_mul]; exact bm32 h1 h2
theorem i_of {z : Int} (h1 : -2147483648 ≤ z) (h2 : z < 2147483648) : (Int32.ofInt z).toInt = z := by rw [Int32.toInt_ofInt]; exact bm32 h1 h2
theorem l_add {a b : Int64} (h1 : -9223372036854775808 ≤ a.toInt + b.toInt) (h2 : a.toInt + b.toInt < 9223372036854775808) : (a + b).toInt = a.toInt + b.toInt := by rw [Int64.toInt_add]; exact bm64 h1 h2
theorem l_sub {a b : Int64} (h1 : -9223372036854775808 ≤ a.toInt - b.toInt) (h2 : a.toInt - b.toInt < 9223372036854775808) : (a - b).toInt = a.toInt - b.toInt := by rw [Int64.toInt_sub]; exact bm64 h1 h2
theorem l_mul {a b : Int64} (h1 : -9223372036854775808 ≤ a.toInt * b.toInt) (h2 : a.toInt * b.toInt < 9223372036854775808) : (a * b).toInt = a.toInt * b.toInt := by rw [Int64.toInt_mul]; exact bm64 h1 h2
theorem i_l (x : Int32) : x.toInt64.toInt = x.toInt := Int32.toInt_toInt64 x
theorem i_inj {a b : Int32} (h : a.toInt = b.toInt) : a = b := Int32.toInt_inj.mp h
theorem l_inj {a b : Int64} (h : a.toInt = b.toInt) : a = b := Int64.toInt_inj.mp h
/-- sizes, source and listener of an axis in their bounds -/
def axok (w s t : Int32) : Prop := 1 ≤ w.toInt ∧ w.toInt ≤ 1000 ∧ 0 ≤ s.toInt ∧ s.toInt ≤ w.toInt ∧ 0 ≤ t.toInt ∧ t.toInt ≤ w.toInt
def dif (w s t z : Int) : Int := z * w + (if z % 2 = 0 then s else w - s) - t
def sqn (w s t : Int32) (z : Int) : Nat := (dif w.toInt s.toInt t.toInt z).natAbs * (dif w.toInt s.toInt t.toInt z).natAbs
theorem zw_bd {w z : Int} (h0 : 1 ≤ w) (h1 : w ≤ 1000) (z1 : -40 ≤ z) (z2 : z ≤ 40) : -40000 ≤ z * w ∧ z * w ≤ 40000 := by
  have a1 := Int.mul_le_mul_of_nonneg_right z2 (show 0 ≤ w by omega)
  have a2 := Int.mul_le_mul_of_nonneg_right z1 (show 0 ≤ w by omega)
  omega
theorem dif_bd {w s t : Int32} {z : Int} (h : axok w s t) (z1 : -40 ≤ z) (z2 : z ≤ 40) : (dif w.toInt s.toInt t.toInt z).natAbs ≤ 41000 := by
  obtain ⟨a1, a2, a3, a4, a5, a6⟩ := h
  obtain ⟨b1, b2⟩ := zw_bd a1 a2 z1 z2
  unfold dif
  generalize z * w.toInt = q at b1 b2 ⊢
  split <;> omega
theorem sqn_bd {w s t : Int32} {z : Int} (h : axok w s t) (z1 : -40 ≤ z) (z2 : z ≤ 40) : sqn w s t z < 2147483648 := by
  have b := dif_bd h z1 z2
  have := Nat.mul_le_mul b b
  unfold sqn
  omega
theorem sqn_int (w s t : Int32) (z : Int) : ((sqn w s t z : Nat) : Int) = dif w.toInt s.toInt t.toInt z * dif w.toInt s.toInt t.toInt z := Int.natAbs_mul_self
/-- an Int64 whose number is a square of an axis -/
theorem sq_of {w s t : Int32} {z : Int} {d : Int64} (h : axok w s t) (z1 : -40 ≤ z) (z2 : z ≤ 40) (hd : d.toInt = dif w.toInt s.toInt t.toInt z) : d * d = lN (sqn w s t z) := by
  have b := sqn_bd h z1 z2
  have e := sqn_int w s t z
  apply l_inj
  rw [pk_lT (by omega), l_mul (by rw [hd, ← e]; omega) (by rw [hd, ← e]; omega), hd, e]
theorem even1 (n : Int32) : (n &&& 1) = 0 ↔ n.toInt % 2 = 0 := by
  have e := Jvm.Kit.i32_mask n 1 (k := 1) (by decide) (by decide)
  constructor
  · intro h
    rw [h] at e
    have h0 : (0 : Int32).toInt = 0 := rfl
    omega
  · intro h
    apply i_inj
    rw [e]
    have h0 : (0 : Int32).toInt = 0 := rfl
    omega
theorem img_of {w s t : Int32} {z : Int} (h : axok w s t) (z1 : -40 ≤ z) (z2 : z ≤ 40) : (j_A_imageAt w s (Int32.ofInt z)).toInt = dif w.toInt s.toInt t.toInt z + t.toInt := by
  obtain ⟨a1, a2, a3, a4, a5, a6⟩ := h
  obtain ⟨b1, b2⟩ := zw_bd a1 a2 z1 z2
  have ez : (Int32.ofInt z).toInt = z := i_of (by omega) (by omega)
  have em : (Int32.ofInt z * w).toInt = z * w.toInt := by rw [i_mul (by rw [ez]; omega) (by rw [ez]; omega), ez]
  unfold j_A_imageAt dif
  by_cases c : (Int32.ofInt z &&& 1) = 0
  · have c2 := (even1 _).mp c
    rw [ez] at c2
    rw [if_pos c, if_pos c2, i_add (by omega) (by omega), em]
    omega
  · have c2 : ¬ z % 2 = 0 := fun q => c ((even1 _).mpr (by rw [ez]; exact q))
    have es : (w - s).toInt = w.toInt - s.toInt := i_sub (by omega) (by omega)
    rw [if_neg c, if_neg c2, i_add (by omega) (by omega), em, es]
    omega
theorem sq_eq {w s t : Int32} {z : Int} (h : axok w s t) (z1 : -40 ≤ z) (z2 : z ≤ 40) : j_A_squareTo w s t (Int32.ofInt z) = lN (sqn w s t z) := by
  have e := img_of h z1 z2
  have b := dif_bd h z1 z2
  obtain ⟨a1, a2, a3, a4, a5, a6⟩ := id h
  refine sq_of h z1 z2 ?_
  rw [i_l, i_sub (by omega) (by omega), e]
  omega
/-! keys -/
/-- an image number by its raised number -/
def nz (a : Nat) : Int32 := Int32.ofInt ((a : Int) - 40)
theorem nz_int {a : Nat} (h : a < 1000) : (nz a).toInt = (a : Int) - 40 := i_of (by omega) (by omega)
theorem nz_of {z : Int} (h1 : -40 ≤ z) (h2 : z ≤ 40) : Int32.ofInt z = nz (z + 40).toNat := by
  unfold nz
  rw [show (((z + 40).toNat : Nat) : Int) - 40 = z by omega]
theorem nz_40 {a : Nat} (h : a < 1000) : nz a + 40 = nI a := by
  apply i_inj
  have e := nz_int h
  have h0 : (40 : Int32).toInt = 40 := rfl
  rw [i_add (by omega) (by omega), e, nI_toInt (by omega), h0]
  omega
theorem wnb {u a : Nat} (hu : u < 2 ^ 50) (ha : a < 81) : j_R_withNumberBelow (lN u) (nz a) = lN (u * 128 + a) := by
  unfold j_R_withNumberBelow
  rw [g_shl (a := u) (k := 7) (p := 128) (by decide) (by decide) (by decide) (by omega), nz_40 (by omega), nI_l (by omega)]
  exact g_or (k := 7) (by decide) (by omega) (by omega)
theorem lni {b : Nat} (hb : b < 2 ^ 62) : j_R_lowestNumberIn (lN b) = nz (b % 128) := by
  unfold j_R_lowestNumberIn
  rw [show (127 : Int64) = lN (128 - 1) from rfl, g_mask (s := 7) (by decide) (by decide) (by omega), lN_i]
  apply i_inj
  have h0 : (40 : Int32).toInt = 40 := rfl
  have hm := Nat.mod_lt b (show 128 > 0 by decide)
  have e := nI_toInt (n := b % 128) (by omega)
  rw [i_sub (by omega) (by omega), e, nz_int (by omega), h0]
theorem key3 {d a b c : Nat} (hd : d < 6442450944) (ha : a < 81) (hb : b < 81) (hc : c < 81) : j_R_keyOf (lN d) (nz a) (nz b) (nz c) = lN (pu_k3 d a b c) := by
  unfold j_R_keyOf pu_k3
  rw [wnb (by omega) ha, wnb (by omega) hb, wnb (by omega) hc]
theorem k3_lt {d a b c : Nat} (hd : d < 6442450944) (ha : a < 81) (hb : b < 81) (hc : c < 81) : pu_k3 d a b c < 2 ^ 54 := by
  unfold pu_k3
  omega
theorem k3_first {d a b c : Nat} (hd : d < 6442450944) (ha : a < 81) (hb : b < 81) (hc : c < 81) : j_R_firstNumberIn (lN (pu_k3 d a b c)) = nz a := by
  have h := k3_lt hd ha hb hc
  unfold j_R_firstNumberIn
  rw [pf_shr (d := 14) (by decide) (by omega), lni (by omega)]
  congr 1
  unfold pu_k3
  omega
theorem k3_second {d a b c : Nat} (hd : d < 6442450944) (ha : a < 81) (hb : b < 81) (hc : c < 81) : j_R_secondNumberIn (lN (pu_k3 d a b c)) = nz b := by
  have h := k3_lt hd ha hb hc
  unfold j_R_secondNumberIn
  rw [pf_shr (d := 7) (by decide) (by omega), lni (by omega)]
  congr 1
  unfold pu_k3
  omega
theorem k3_third {d a b c : Nat} (hd : d < 6442450944) (ha : a < 81) (hb : b < 81) (hc : c < 81) : j_R_thirdNumberIn (lN (pu_k3 d a b c)) = nz c := by
  have h := k3_lt hd ha hb hc
  unfold j_R_thirdNumberIn
  rw [lni (by omega)]
  congr 1
  unfold pu_k3
  omega
theorem k3_dist {d a b c : Nat} (hd : d < 6442450944) (ha : a < 81) (hb : b < 81) (hc : c < 81) : j_R_distanceIn (lN (pu_k3 d a b c)) = lN d := by
  have h := k3_lt hd ha hb hc
  unfold j_R_distanceIn
  rw [pf_shr (d := 21) (by decide) (by omega)]
  congr 1
  unfold pu_k3
  omega
/-! an axis in its order -/
theorem axK_eq {w s t : Int32} {z : Int} (h : axok w s t) (z1 : -40 ≤ z) (z2 : z ≤ 40) : j_axK w s t z = lN (sqn w s t z * 128 + (z + 40).toNat) := by
  have b := sqn_bd h z1 z2
  unfold j_axK
  rw [sq_eq h z1 z2, nz_of z1 z2, wnb (by omega) (by omega)]
def ax_b (f : Nat → Int64) (i : Nat) : Nat := (f i).toInt.toNat
def ax_s (f : Nat → Int64) (i : Nat) : Nat := ax_b f i / 128
def ax_n (f : Nat → Int64) (i : Nat) : Nat := ax_b f i % 128
/-- a row of ranked numbers: what its squares and its numbers are -/
def axrow (w s t : Int32) (f : Nat → Int64) : Prop := (∀ i, i < 81 → f i = lN (ax_b f i) ∧ ax_n f i < 81 ∧ ax_s f i = sqn w s t ((ax_n f i : Int) - 40)) ∧ pu_ax (ax_s f) (ax_n f) ∧ ∀ a, a < 81 → ∃ i, i < 81 ∧ ax_n f i = a
theorem ord_row {w s t : Int32} (h : axok w s t) (r : Nat → Int64) : axrow w s t (pu_ord (j_axK w s t) r 40) := by
  have inj : ∀ n m : Int, -40 ≤ n → n ≤ 40 → -40 ≤ m → m ≤ 40 → j_axK w s t n = j_axK w s t m → n = m := by
    intro n m n1 n2 m1 m2 e
    have b1 := sqn_bd h n1 n2
    have b2 := sqn_bd h m1 m2
    rw [axK_eq h n1 n2, axK_eq h m1 m2, pk_lEQ (by omega) (by omega)] at e
    omega
  obtain ⟨q1, q2, q3⟩ := pu_ordok (M := 40) inj (by decide) r 40 (by decide)
  generalize pu_ord (j_axK w s t) r 40 = f at q1 q2 q3
  have at_ : ∀ i, i < 81 → ∃ z : Int, -40 ≤ z ∧ z ≤ 40 ∧ f i = lN (sqn w s t z * 128 + (z + 40).toNat) ∧ ax_b f i = sqn w s t z * 128 + (z + 40).toNat := by
    intro i hi
    obtain ⟨z, z1, z2, e⟩ := (q3 (f i)).mp ⟨i, hi, rfl⟩
    have z1 : -40 ≤ z := z1
    have z2 : z ≤ 40 := z2
    have b := sqn_bd h z1 z2
    rw [axK_eq h z1 z2] at e
    refine ⟨z, z1, z2, e, ?_⟩
    unfold ax_b
    rw [e, pk_lT (by omega)]
    omega
  refine ⟨fun i hi => ?_, ⟨fun i hi => ?_, fun i j hi hj e => ?_, fun i hi => ?_⟩, fun a ha => ?_⟩
  · obtain ⟨z, z1, z2, e1, e2⟩ := at_ i hi
    have en : ax_n f i = (z + 40).toNat := by unfold ax_n; omega
    refine ⟨by rw [e2]; exact e1, by omega, ?_⟩
    rw [en, show (((z + 40).toNat : Nat) : Int) - 40 = z by omega]
    unfold ax_s
    omega
  · obtain ⟨z, z1, z2, e1, e2⟩ := at_ i hi
    have b := sqn_bd h z1 z2
    unfold ax_s ax_n
    omega
  · obtain ⟨z, z1, z2, e1, e2⟩ := at_ i hi
    obtain ⟨y, y1, y2, e3, e4⟩ := at_ j hj
    unfold ax_n at e
    have : z = y := by omega
    subst this
    exact q2 i j hi hj (by rw [e1, e3])
  · obtain ⟨z, z1, z2, e1, e2⟩ := at_ i (by omega)
    obtain ⟨y, y1, y2, e3, e4⟩ := at_ (i + 1) hi
    have b1 := sqn_bd h z1 z2
    have b2 := sqn_bd h y1 y2
    have le := q1 i (i + 1) (by omega) hi
    have ne : f i ≠ f (i + 1) := fun q => by have := q2 i (i + 1) (by omega) hi q; omega
    rw [e1, e3, pk_lLE (by omega) (by omega)] at le
    have ne2 : ax_b f i ≠ ax_b f (i + 1) := fun q => ne (by rw [e1, e3, ← e2, ← e4, q])
    unfold ax_s ax_n
    omega
  · obtain ⟨i, hi, e⟩ := (q3 (j_axK w s t ((a : Int) - 40))).mpr ⟨(a : Int) - 40, by omega, by omega, rfl⟩
    refine ⟨i, hi, ?_⟩
    have b := sqn_bd h (z := (a : Int) - 40) (by omega) (by omega)
    rw [axK_eq h (by omega) (by omega)] at e
    unfold ax_n ax_b
    rw [e, pk_lT (by omega)]
    omega
end
section
/-! PURE: the order of the echoes as the class makes it: the first five hundred keys. -/
theorem nu_lt81 {i : Nat} (hi : i < 81) : ¬ nI i < 0 ∧ ¬ (81 : Int32) ≤ nI i := ⟨nI_pos (by omega), fun h => nu_81 (by omega) h hi⟩
theorem sqAt_eq {w s t : Int32} {f : Nat → Int64} (h : axrow w s t f) {i : Nat} (hi : i < 81) : j_A_squareAt f (nI i) = lN (ax_s f i) := by
  obtain ⟨a, b, -⟩ := h.1 i hi
  have c := (h.2.1.1 i hi).1
  unfold j_A_squareAt
  rw [if_neg (nu_lt81 hi).1, if_neg (nu_lt81 hi).2, nI_clamp (by omega), a, pf_shr (d := 7) (by decide) (by unfold ax_s at c; omega)]
  rfl
theorem numAt_eq {w s t : Int32} {f : Nat → Int64} (h : axrow w s t f) {i : Nat} (hi : i < 81) : j_A_numberAt f (nI i) = nz (ax_n f i) := by
  obtain ⟨a, b, -⟩ := h.1 i hi
  have c := (h.2.1.1 i hi).1
  unfold j_A_numberAt
  rw [if_neg (nu_lt81 hi).1, if_neg (nu_lt81 hi).2, nI_clamp (by omega), a, lni (by unfold ax_s at c; omega)]
  rfl
def kk3 (fX fY fZ : Nat → Int64) (i j m : Nat) : Nat := pu_k3 (ax_s fX i + ax_s fY j + ax_s fZ m) (ax_n fX i) (ax_n fY j) (ax_n fZ m)
section ORD
variable {wX sX tX wY sY tY wZ sZ tZ : Int32} {fX fY fZ : Nat → Int64}
theorem ax_sum (hX : axrow wX sX tX fX) (hY : axrow wY sY tY fY) (hZ : axrow wZ sZ tZ fZ) {i j m : Nat} (hi : i < 81) (hj : j < 81) (hm : m < 81) : ax_s fX i + ax_s fY j + ax_s fZ m < 6442450944 := by
  have a1 := (hX.2.1.1 i hi).1
  have a2 := (hY.2.1.1 j hj).1
  have a3 := (hZ.2.1.1 m hm).1
  omega
theorem adk_eq (hX : axrow wX sX tX fX) (hY : axrow wY sY tY fY) (hZ : axrow wZ sZ tZ fZ) {i j m : Nat} (hi : i < 81) (hj : j < 81) (hm : m < 81) : ad_key fX fY fZ i j m = lN (kk3 fX fY fZ i j m) := by
  unfold ad_key kk3
  rw [sqAt_eq hX hi, sqAt_eq hY hj, sqAt_eq hZ hm, numAt_eq hX hi, numAt_eq hY hj, numAt_eq hZ hm, lN_add, lN_add, key3 (ax_sum hX hY hZ hi hj hm) (hX.1 i hi).2.1 (hY.1 j hj).2.1 (hZ.1 m hm).2.1]
theorem adk_KK (hX : axrow wX sX tX fX) (hY : axrow wY sY tY fY) (hZ : axrow wZ sZ tZ fZ) : pu_KK 81 (ad_key fX fY fZ) := by
  obtain ⟨k1, k2, k3, k4⟩ := pu_KKof hX.2.1 hY.2.1 hZ.2.1
  refine ⟨?_, ?_, ?_, ?_⟩
  · intro i j m a b c hi hj hm ha hb hc e
    rw [adk_eq hX hY hZ hi hj hm, adk_eq hX hY hZ ha hb hc] at e
    exact k1 i j m a b c hi hj hm ha hb hc e
  · intro i j m hi hj hm
    rw [adk_eq hX hY hZ hi hj (by omega), adk_eq hX hY hZ hi hj hm]
    exact k2 i j m hi hj hm
  · intro i j hi hj
    rw [adk_eq hX hY hZ hi (by omega) (by omega), adk_eq hX hY hZ hi hj (by omega)]
    exact k3 i j hi hj
  · intro i hi
    rw [adk_eq hX hY hZ (by omega) (by omega) (by omega), adk_eq hX hY hZ hi (by omega) (by omega)]
    exact k4 i hi
theorem rk_ok {w s t : Int32} {f : Nat → Int64} (h : axrow w s t f) (k0 : Nat → Int32) : ∀ c, c ≤ 81 → ∀ i, i < c → j_rk f k0 c (ax_n f i) = nI i := by
  intro c
  induction c with
  | zero => intro _ i hi; omega
  | succ c ih =>
    intro hc i hi
    have b := (h.1 c (by omega)).2.1
    have e : j_A_numberAt f (nI c) + 40 = nI (ax_n f c) := by rw [numAt_eq h (by omega), nz_40 (by omega)]
    rw [j_rk_s, e, if_neg (nu_lt81 b).1, if_neg (nu_lt81 b).2, nI_clamp (by omega)]
    by_cases q : i = c
    · subst q
      exact pk_us
    · rw [pk_un (fun z => q (h.2.1.2.1 i c (by omega) (by omega) z))]
      exact ih (by omega) i (by omega)
theorem rank_of {w s t : Int32} {f : Nat → Int64} (h : axrow w s t f) (k0 : Nat → Int32) {i : Nat} (hi : i < 81) : j_A_rankOf (j_rk f k0 81) (nz (ax_n f i)) = nI i := by
  have b := (h.1 i hi).2.1
  unfold j_A_rankOf
  rw [nz_40 (by omega), if_neg (nu_lt81 b).1, if_neg (nu_lt81 b).2, nI_clamp (by omega)]
  exact rk_ok h k0 81 (Nat.le_refl _) i hi
theorem ad_ok {key : Int64} {i j m n : Nat} {f : Nat → Int64} (h1 : pu_hp n f) (h2 : pu_hi n f) (hx : i < 81 ∧ j < 81 ∧ m < 81 → ¬ pu_hs n f key) :
    pu_hp (ad_n i j m n) (ad_f key i j m n f) ∧ pu_hi (ad_n i j m n) (ad_f key i j m n f) ∧ ∀ v, pu_hs (ad_n i j m n) (ad_f key i j m n f) v ↔ pu_hs n f v ∨ ((i < 81 ∧ j < 81 ∧ m < 81) ∧ v = key) := by
  unfold ad_n ad_f
  by_cases c : i < 81 ∧ j < 81 ∧ m < 81
  · rw [if_pos c, if_pos c]
    obtain ⟨p1, p2, p3⟩ := pu_upall (key := key) (d := n + 1) (by omega) h1 h2 (hx c)
    exact ⟨p1, p2, fun v => (p3 v).trans ⟨fun z => z.imp id (fun q => ⟨c, q⟩), fun z => z.imp id (fun q => q.2)⟩⟩
  · rw [if_neg c, if_neg c]
    exact ⟨h1, h2, fun v => ⟨Or.inl, fun z => z.elim id (fun q => absurd q.1 c)⟩⟩
/-- what waits for a node that isn't out isn't in the heap -/
theorem fo_new {K : Nat → Nat → Nat → Int64} {E f : Nat → Int64} {k n a b c i j m : Nat} (hK : pu_KK 81 K) (h : pu_FI 81 K E f k n) (hi : i < 81) (hj : j < 81) (hm : m < 81) (ht : ¬ pu_tk K E k i j m) (ha : a < 81) (hb : b < 81) (hc : c < 81)
    (hw : (c ≠ 0 ∧ a = i ∧ b = j ∧ c - 1 = m) ∨ (c = 0 ∧ b ≠ 0 ∧ a = i ∧ b - 1 = j ∧ m = 0) ∨ (c = 0 ∧ b = 0 ∧ a ≠ 0 ∧ a - 1 = i ∧ j = 0 ∧ m = 0)) : ¬ pu_hs n f (K a b c) := by
  intro q
  obtain ⟨a', b', c', x1, x2, x3, x4, x5, x6⟩ := (h.2.2.2.2.2.1 _).mp q
  obtain ⟨rfl, rfl, rfl⟩ := hK.1 _ _ _ _ _ _ ha hb hc x1 x2 x3 x6
  apply ht
  rcases hw with ⟨w1, w2, w3, w4⟩ | ⟨w1, w2, w3, w4, w5⟩ | ⟨w1, w2, w3, w4, w5, w6⟩
  · rcases x5 with ⟨u1, u2⟩ | ⟨u1, u2, u3⟩ | ⟨u1, u2, u3, u4⟩ | ⟨u1, u2, u3⟩
    · rw [w2, w3, w4] at u2; exact u2
    · omega
    · omega
    · omega
  · rcases x5 with ⟨u1, u2⟩ | ⟨u1, u2, u3⟩ | ⟨u1, u2, u3, u4⟩ | ⟨u1, u2, u3⟩
    · omega
    · rw [w3, w4] at u3; rw [w5]; exact u3
    · omega
    · omega
  · rcases x5 with ⟨u1, u2⟩ | ⟨u1, u2, u3⟩ | ⟨u1, u2, u3, u4⟩ | ⟨u1, u2, u3⟩
    · omega
    · omega
    · rw [w4] at u4; rw [w5, w6]; exact u4
    · omega
/-- a step of the loop -/
theorem oe_step {E f : Nat → Int64} {k n i j m : Nat} (hK : pu_KK 81 (ad_key fX fY fZ)) (h : pu_FI 81 (ad_key fX fY fZ) E f k (n + 1)) (hi : i < 81) (hj : j < 81) (hm : m < 81) (hv : f 0 = ad_key fX fY fZ i j m) :
    pu_FI 81 (ad_key fX fY fZ) (vp_updL E k (f 0)) (fo_f fX fY fZ i j m n (pu_dn (f n) n (n + 1) 0 f)) (k + 1) (fo_n i j m n) := by
  obtain ⟨a0, b0, c0, x1, x2, x3, x4, x5, x6⟩ := (h.2.2.2.2.2.1 (f 0)).mp ⟨0, by omega, rfl⟩
  obtain ⟨rfl, rfl, rfl⟩ := hK.1 _ _ _ _ _ _ x1 x2 x3 hi hj hm (by rw [← x6, hv])
  obtain ⟨d1, d2, d3⟩ := pu_dnall (d := n + 1) (by omega) h.2.2.2.1 h.2.2.2.2.1
  generalize hf1 : pu_dn (f n) n (n + 1) 0 f = f1 at d1 d2 d3 ⊢
  have new : ∀ a b c, a < 81 → b < 81 → c < 81 → ((c ≠ 0 ∧ a = a0 ∧ b = b0 ∧ c - 1 = c0) ∨ (c = 0 ∧ b ≠ 0 ∧ a = a0 ∧ b - 1 = b0 ∧ c0 = 0) ∨ (c = 0 ∧ b = 0 ∧ a ≠ 0 ∧ a - 1 = a0 ∧ b0 = 0 ∧ c0 = 0)) → ¬ pu_hs n f1 (ad_key fX fY fZ a b c) := fun a b c ha hb hc hw q =>
    fo_new hK h hi hj hm x4 ha hb hc hw ((d3 _).mp q).1
  obtain ⟨e1, e2, e3⟩ := ad_ok (key := ad_key fX fY fZ a0 b0 (c0 + 1)) (i := a0) (j := b0) (m := c0 + 1) d1 d2 (fun q => new _ _ _ q.1 q.2.1 q.2.2 (Or.inl ⟨by omega, rfl, rfl, by omega⟩))
  have g2 : pu_hp (fo_n2 a0 b0 c0 n) (fo_f2 fX fY fZ a0 b0 c0 n f1) ∧ pu_hi (fo_n2 a0 b0 c0 n) (fo_f2 fX fY fZ a0 b0 c0 n f1) ∧ ∀ v, pu_hs (fo_n2 a0 b0 c0 n) (fo_f2 fX fY fZ a0 b0 c0 n f1) v ↔ (pu_hs n f1 v ∨ (c0 + 1 < 81 ∧ v = ad_key fX fY fZ a0 b0 (c0 + 1))) ∨ (c0 = 0 ∧ b0 + 1 < 81 ∧ v = ad_key fX fY fZ a0 (b0 + 1) 0) := by
    have e3' : ∀ v, pu_hs (fo_n1 a0 b0 c0 n) (fo_f1 fX fY fZ a0 b0 c0 n f1) v ↔ pu_hs n f1 v ∨ (c0 + 1 < 81 ∧ v = ad_key fX fY fZ a0 b0 (c0 + 1)) := fun v => (e3 v).trans ⟨fun z => z.imp id (fun q => ⟨q.1.2.2, q.2⟩), fun z => z.imp id (fun q => ⟨⟨hi, hj, q.1⟩, q.2⟩)⟩
    unfold fo_n2 fo_f2
    by_cases c : c0 = 0
    · rw [if_pos c, if_pos c]
      obtain ⟨y1, y2, y3⟩ := ad_ok (key := ad_key fX fY fZ a0 (b0 + 1) 0) (i := a0) (j := b0 + 1) (m := 0) (n := fo_n1 a0 b0 c0 n) (f := fo_f1 fX fY fZ a0 b0 c0 n f1) e1 e2 (fun q z => by
        rcases (e3' _).mp z with z | ⟨z1, z2⟩
        · exact new _ _ _ q.1 q.2.1 q.2.2 (Or.inr (Or.inl ⟨rfl, by omega, rfl, by omega, c⟩)) z
        · have := hK.1 _ _ _ _ _ _ q.1 q.2.1 q.2.2 hi hj z1 z2
          omega)
      exact ⟨y1, y2, fun v => (y3 v).trans ⟨fun z => z.imp (e3' v).mp (fun q => ⟨c, q.1.2.1, q.2⟩), fun z => z.imp (e3' v).mpr (fun q => ⟨⟨hi, q.2.1, by decide⟩, q.2.2⟩)⟩⟩
    · rw [if_neg c, if_neg c]
      exact ⟨e1, e2, fun v => (e3' v).trans ⟨Or.inl, fun z => z.elim id (fun q => absurd q.1 c)⟩⟩
  obtain ⟨y1, y2, y3⟩ := g2
  have g3 : pu_hp (fo_n a0 b0 c0 n) (fo_f fX fY fZ a0 b0 c0 n f1) ∧ pu_hi (fo_n a0 b0 c0 n) (fo_f fX fY fZ a0 b0 c0 n f1) ∧ ∀ v, pu_hs (fo_n a0 b0 c0 n) (fo_f fX fY fZ a0 b0 c0 n f1) v ↔ ((pu_hs n f1 v ∨ (c0 + 1 < 81 ∧ v = ad_key fX fY fZ a0 b0 (c0 + 1))) ∨ (c0 = 0 ∧ b0 + 1 < 81 ∧ v = ad_key fX fY fZ a0 (b0 + 1) 0)) ∨ (c0 = 0 ∧ b0 = 0 ∧ a0 + 1 < 81 ∧ v = ad_key fX fY fZ (a0 + 1) 0 0) := by
    unfold fo_n fo_f
    by_cases c : c0 = 0 ∧ b0 = 0
    · rw [if_pos c, if_pos c]
      obtain ⟨w1, w2, w3⟩ := ad_ok (key := ad_key fX fY fZ (a0 + 1) 0 0) (i := a0 + 1) (j := 0) (m := 0) y1 y2 (fun q z => by
        rcases (y3 _).mp z with (z | ⟨z1, z2⟩) | ⟨z0, z1, z2⟩
        · exact new _ _ _ q.1 q.2.1 q.2.2 (Or.inr (Or.inr ⟨rfl, rfl, by omega, by omega, c.2, c.1⟩)) z
        · have := hK.1 _ _ _ _ _ _ q.1 q.2.1 q.2.2 hi hj z1 z2
          omega
        · have := hK.1 _ _ _ _ _ _ q.1 q.2.1 q.2.2 hi z1 q.2.2 z2
          omega)
      exact ⟨w1, w2, fun v => (w3 v).trans ⟨fun z => z.imp (y3 v).mp (fun q => ⟨c.1, c.2, q.1.1, q.2⟩), fun z => z.imp (y3 v).mpr (fun q => ⟨⟨q.2.2.1, by decide, by decide⟩, q.2.2.2⟩)⟩⟩
    · rw [if_neg c, if_neg c]
      exact ⟨y1, y2, fun v => (y3 v).trans ⟨Or.inl, fun z => z.elim id (fun q => absurd ⟨q.1, q.2.1⟩ c)⟩⟩
  obtain ⟨w1, w2, w3⟩ := g3
  refine pu_step hK h a0 b0 c0 hi hj hm (by omega) hv w1 w2 ?_ (fun v => ?_)
  · have l1 := ad_le a0 b0 (c0 + 1) n
    have l2 := ad_le a0 (b0 + 1) 0 (fo_n1 a0 b0 c0 n)
    have l3 := ad_le (a0 + 1) 0 0 (fo_n2 a0 b0 c0 n)
    have m1 : fo_n1 a0 b0 c0 n ≤ n + 1 := l1.1
    have m2 : fo_n2 a0 b0 c0 n ≤ n + 2 := by unfold fo_n2; split <;> omega
    unfold fo_n
    split <;> omega
  · rw [w3 v, d3 v]
    constructor
    · rintro (((z | z) | z) | z)
      · exact Or.inl z
      · exact Or.inr (Or.inl z)
      · exact Or.inr (Or.inr (Or.inl z))
      · exact Or.inr (Or.inr (Or.inr z))
    · rintro (z | z | z | z)
      · exact Or.inl (Or.inl (Or.inl z))
      · exact Or.inl (Or.inl (Or.inr z))
      · exact Or.inl (Or.inr z)
      · exact Or.inr z
/-- the loop's start -/
theorem oe_zero (E f : Nat → Int64) : pu_FI 81 (ad_key fX fY fZ) E (ad_f (ad_key fX fY fZ 0 0 0) 0 0 0 0 f) 0 (ad_n 0 0 0 0) := by
  obtain ⟨e1, e2, e3⟩ := ad_ok (key := ad_key fX fY fZ 0 0 0) (i := 0) (j := 0) (m := 0) (n := 0) (f := f) (fun i _ h => by omega) (fun i j h => by omega) (fun _ ⟨i, h, _⟩ => by omega)
  refine ⟨fun t ht => by omega, fun a b _ h => by omega, fun _ _ _ _ _ _ _ t ht => by omega, e1, e2, fun v => ?_, (ad_le 0 0 0 0).1⟩
  rw [e3 v]
  constructor
  · rintro (⟨i, h, _⟩ | ⟨-, h⟩)
    · omega
    · exact ⟨0, 0, 0, by decide, by decide, by decide, fun ⟨t, ht, _⟩ => by omega, Or.inr (Or.inr (Or.inr ⟨rfl, rfl, rfl⟩)), h⟩
  · rintro ⟨a, b, c, h1, h2, h3, h4, h5, h6⟩
    rcases h5 with ⟨u1, t, ht, _⟩ | ⟨u1, u2, t, ht, _⟩ | ⟨u1, u2, u3, t, ht, _⟩ | ⟨u1, u2, u3⟩
    · omega
    · omega
    · omega
    · subst u1; subst u2; subst u3
      exact Or.inr ⟨⟨by decide, by decide, by decide⟩, h6⟩
end ORD
/-- the loop of orderEchoes: echoes, heap, its size behind k steps -/
def oe (fX fY fZ : Nat → Int64) (gX gY gZ : Nat → Int32) (E f : Nat → Int64) : Nat → (Nat → Int64) × (Nat → Int64) × Nat
  | 0 => (E, ad_f (ad_key fX fY fZ 0 0 0) 0 0 0 0 f, ad_n 0 0 0 0)
  | k + 1 => (vp_updL (oe fX fY fZ gX gY gZ E f k).1 k ((oe fX fY fZ gX gY gZ E f k).2.1 0),
      fo_f fX fY fZ (j_A_rankOf gX (j_R_firstNumberIn ((oe fX fY fZ gX gY gZ E f k).2.1 0))).toNatClampNeg (j_A_rankOf gY (j_R_secondNumberIn ((oe fX fY fZ gX gY gZ E f k).2.1 0))).toNatClampNeg (j_A_rankOf gZ (j_R_thirdNumberIn ((oe fX fY fZ gX gY gZ E f k).2.1 0))).toNatClampNeg ((oe fX fY fZ gX gY gZ E f k).2.2 - 1)
        (pu_dn ((oe fX fY fZ gX gY gZ E f k).2.1 ((oe fX fY fZ gX gY gZ E f k).2.2 - 1)) ((oe fX fY fZ gX gY gZ E f k).2.2 - 1) ((oe fX fY fZ gX gY gZ E f k).2.2 - 1 + 1) 0 (oe fX fY fZ gX gY gZ E f k).2.1),
      fo_n (j_A_rankOf gX (j_R_firstNumberIn ((oe fX fY fZ gX gY gZ E f k).2.1 0))).toNatClampNeg (j_A_rankOf gY (j_R_secondNumberIn ((oe fX fY fZ gX gY gZ E f k).2.1 0))).toNatClampNeg (j_A_rankOf gZ (j_R_thirdNumberIn ((oe fX fY fZ gX gY gZ E f k).2.1 0))).toNatClampNeg ((oe fX fY fZ gX gY gZ E f k).2.2 - 1))
/-- what the loop finds at its head: the least is a node, its ranks are told back, there is room -/
theorem oe_head {wX sX tX wY sY tY wZ sZ tZ : Int32} {fX fY fZ E f : Nat → Int64} {k n : Nat} (hX : axrow wX sX tX fX) (hY : axrow wY sY tY fY) (hZ : axrow wZ sZ tZ fZ) (h : pu_FI 81 (ad_key fX fY fZ) E f k n) (hk : k < 500) (x y z : Nat → Int32) :
    ∃ n' i j m, n = n' + 1 ∧ n' + 2 < 1001 ∧ i < 81 ∧ j < 81 ∧ m < 81 ∧ f 0 = ad_key fX fY fZ i j m ∧ j_A_rankOf (j_rk fX x 81) (j_R_firstNumberIn (f 0)) = nI i ∧ j_A_rankOf (j_rk fY y 81) (j_R_secondNumberIn (f 0)) = nI j ∧ j_A_rankOf (j_rk fZ z 81) (j_R_thirdNumberIn (f 0)) = nI m := by
  obtain ⟨h0, i, j, m, hi, hj, hm, hv⟩ := pu_more (adk_KK hX hY hZ) h (by decide) (by omega)
  have hn := h.2.2.2.2.2.2
  have d := ax_sum hX hY hZ hi hj hm
  refine ⟨n - 1, i, j, m, by omega, by omega, hi, hj, hm, hv, ?_, ?_, ?_⟩
  · rw [hv, adk_eq hX hY hZ hi hj hm, kk3, k3_first d (hX.1 i hi).2.1 (hY.1 j hj).2.1 (hZ.1 m hm).2.1]
    exact rank_of hX x hi
  · rw [hv, adk_eq hX hY hZ hi hj hm, kk3, k3_second d (hX.1 i hi).2.1 (hY.1 j hj).2.1 (hZ.1 m hm).2.1]
    exact rank_of hY y hj
  · rw [hv, adk_eq hX hY hZ hi hj hm, kk3, k3_third d (hX.1 i hi).2.1 (hY.1 j hj).2.1 (hZ.1 m hm).2.1]
    exact rank_of hZ z hm
theorem oe_next {fX fY fZ E0 f0 E f : Nat → Int64} {gX gY gZ : Nat → Int32} {k n i j m : Nat} (hq : oe fX fY fZ gX gY gZ E0 f0 k = (E, f, n + 1)) (hi : i < 81) (hj : j < 81) (hm : m < 81) (r1 : j_A_rankOf gX (j_R_firstNumberIn (f 0)) = nI i) (r2 : j_A_rankOf gY (j_R_secondNumberIn (f 0)) = nI j) (r3 : j_A_rankOf gZ (j_R_thirdNumberIn (f 0)) = nI m) :
    oe fX fY fZ gX gY gZ E0 f0 (k + 1) = (vp_updL E k (f 0), fo_f fX fY fZ i j m n (pu_dn (f n) n (n + 1) 0 f), fo_n i j m n) := by
  rw [oe, hq]
  dsimp only
  rw [r1, r2, r3, nI_clamp (by omega), nI_clamp (by omega), nI_clamp (by omega), Nat.add_sub_cancel]
end
section
/-! THE FIRST FIVE HUNDRED: what both sides must hold -/
/-- the distance of an image, by raised numbers -/
def dst (wX sX tX wY sY tY wZ sZ tZ : Int32) (a b c : Nat) : Nat := sqn wX sX tX ((a : Int) - 40) + sqn wY sY tY ((b : Int) - 40) + sqn wZ sZ tZ ((c : Int) - 40)
def ekey (wX sX tX wY sY tY wZ sZ tZ : Int32) (a b c : Nat) : Nat := pu_k3 (dst wX sX tX wY sY tY wZ sZ tZ a b c) a b c
def ES (wX sX tX wY sY tY wZ sZ tZ : Int32) (E : Nat → Int64) : Prop :=
  (∀ k, k < 500 → ∃ a b c, a < 81 ∧ b < 81 ∧ c < 81 ∧ E k = lN (ekey wX sX tX wY sY tY wZ sZ tZ a b c)) ∧ (∀ k j, k < j → j < 500 → E k < E j) ∧
  ∀ a b c, a < 81 → b < 81 → c < 81 → (∃ k, k < 500 ∧ E k = lN (ekey wX sX tX wY sY tY wZ sZ tZ a b c)) ∨ ∀ k, k < 500 → E k < lN (ekey wX sX tX wY sY tY wZ sZ tZ a b c)
theorem dst_bd {wX sX tX wY sY tY wZ sZ tZ : Int32} {a b c : Nat} (hX : axok wX sX tX) (hY : axok wY sY tY) (hZ : axok wZ sZ tZ) (ha : a < 81) (hb : b < 81) (hc : c < 81) : dst wX sX tX wY sY tY wZ sZ tZ a b c < 6442450944 := by
  have b1 := sqn_bd hX (z := (a : Int) - 40) (by omega) (by omega)
  have b2 := sqn_bd hY (z := (b : Int) - 40) (by omega) (by omega)
  have b3 := sqn_bd hZ (z := (c : Int) - 40) (by omega) (by omega)
  unfold dst
  omega
theorem ES_of {wX sX tX wY sY tY wZ sZ tZ : Int32} {fX fY fZ E f : Nat → Int64} {n : Nat} (hX : axrow wX sX tX fX) (hY : axrow wY sY tY fY) (hZ : axrow wZ sZ tZ fZ) (h : pu_FI 81 (ad_key fX fY fZ) E f 500 n) : ES wX sX tX wY sY tY wZ sZ tZ E := by
  have ek : ∀ i j m, i < 81 → j < 81 → m < 81 → ad_key fX fY fZ i j m = lN (ekey wX sX tX wY sY tY wZ sZ tZ (ax_n fX i) (ax_n fY j) (ax_n fZ m)) := by
    intro i j m hi hj hm
    rw [adk_eq hX hY hZ hi hj hm, kk3, ekey, dst, (hX.1 i hi).2.2, (hY.1 j hj).2.2, (hZ.1 m hm).2.2]
  refine ⟨fun k hk => ?_, h.2.1, fun a b c ha hb hc => ?_⟩
  · obtain ⟨i, j, m, hi, hj, hm, e⟩ := h.1 k hk
    exact ⟨_, _, _, (hX.1 i hi).2.1, (hY.1 j hj).2.1, (hZ.1 m hm).2.1, by rw [e, ek i j m hi hj hm]⟩
  · obtain ⟨i, hi, e1⟩ := hX.2.2 a ha
    obtain ⟨j, hj, e2⟩ := hY.2.2 b hb
    obtain ⟨m, hm, e3⟩ := hZ.2.2 c hc
    have e := ek i j m hi hj hm
    rw [e1, e2, e3] at e
    by_cases q : pu_tk (ad_key fX fY fZ) E 500 i j m
    · obtain ⟨t, ht, et⟩ := q
      exact Or.inl ⟨t, ht, by rw [et, e]⟩
    · right
      rw [← e]
      exact h.2.2.1 i j m hi hj hm q
/-- there is only one such row -/
theorem ES_one {wX sX tX wY sY tY wZ sZ tZ : Int32} {E F : Nat → Int64} (h1 : ES wX sX tX wY sY tY wZ sZ tZ E) (h2 : ES wX sX tX wY sY tY wZ sZ tZ F) : ∀ k, k < 500 → E k = F k := by
  have key : ∀ {E F : Nat → Int64}, ES wX sX tX wY sY tY wZ sZ tZ E → ES wX sX tX wY sY tY wZ sZ tZ F → ∀ k, k < 500 → (∀ j, j < k → E j = F j) → ¬ F k < E k := by
    intro E F h1 h2 k hk ih hlt
    obtain ⟨a, b, c, ha, hb, hc, e⟩ := h2.1 k hk
    rcases h1.2.2 a b c ha hb hc with ⟨t, ht, et⟩ | q
    · rw [← e] at et
      rcases Nat.lt_trichotomy t k with z | z | z
      · have := h2.2.1 t k z hk
        rw [← ih t z, et, pu_lt] at this
        omega
      · subst z
        rw [et, pu_lt] at hlt
        omega
      · have := h1.2.1 k t z ht
        rw [et] at this
        rw [pu_lt] at this hlt
        omega
    · rw [← e] at q
      have z := q 499 (by decide)
      by_cases hz : k = 499
      · subst hz
        rw [pu_lt] at z hlt
        omega
      · have y := h1.2.1 k 499 (by omega) (by decide)
        rw [pu_lt] at z hlt y
        omega
  intro k
  induction k using Nat.strongRecOn with
  | _ k ih =>
    intro hk
    have a := key h1 h2 k hk (fun j hj => ih j hj (by omega))
    have b := key h2 h1 k hk (fun j hj => (ih j hj (by omega)).symm)
    apply l_inj
    rw [pu_lt] at a b
    omega
/-- the loudness of echo k, as the class holds it -/
def lou (kp : Nat → Int32) (E : Nat → Int64) (k : Nat) : Int64 := j_R_loudnessOf (j_R_strengthOf kp (j_R_firstNumberIn (E k)) (j_R_secondNumberIn (E k)) (j_R_thirdNumberIn (E k))) (j_R_distanceIn (E k))
def kpok (kp : Nat → Int32) : Prop := ∀ i, i < 6 → 0 ≤ (kp i).toInt ∧ (kp i).toInt ≤ 1000
/-- an object of the class between two calls -/
def RI (wX sX tX wY sY tY wZ sZ tZ : Int32) (kp : Nat → Int32) (E G : Nat → Int64) (od wd : Int32) : Prop :=
  axok wX sX tX ∧ axok wY sY tY ∧ axok wZ sZ tZ ∧ kpok kp ∧ (od = 0 ∨ (od = 1 ∧ ES wX sX tX wY sY tY wZ sZ tZ E)) ∧ (wd = 0 ∨ (wd = 1 ∧ od = 1 ∧ ∀ k, k < 500 → G k = lou kp E k))
section WX
variable {p : Program} {l : Launch} {e : Env} {R : Room} {s : State} {m : MethodId} {args : Array Value} {below : List Frame} {meth : Method} {c : Code} {H H0 : Heap} {locs : List Loc} {cells slots : Nat} {Q : State → Prop}
variable {D : va_G} {ws wc wr : va_W} {A0 : Nat → Prop} {pc mc ms : Nat} {ls : Array Slot} {rest st0 : List Value} {a : Array Value}
theorem wx_join {w1 : va_W} {H1 : Heap} {t : State} (hP : va_P D vwCl ws H) (hD : va_D A0 ws) (hS : va_S A0 H0 H locs) (hA : ∀ q, H0.size ≤ q → A0 q) (isC isR : List Nat) (hC : isC.map (fun i => ws[i]?) = wc.map some) (hR : isR.map (fun i => ws[i]?) = wr.map some) (hn : va_nd isR = true) (hdis : ∀ i ∈ isR, i ∉ isC)
    (ht : t.heap = H1) (hk : ∀ q : Nat, q < H.size → ¬ va_A wc H.size q → H1[q]? = H[q]?) (hP1 : va_P D vwCl w1 t.heap) (hD1 : va_D (va_A wc H.size) w1) : va_P D vwCl (wr ++ w1) H1 ∧ va_D A0 (wr ++ w1) := by
  rw [ht] at hP1
  exact va_join hP hD isC isR hC hR hn hdis hk (va_free hD hS hA isC hC) hP1 hD1
theorem wx_cv {S : Type} {post : S → Prop} {w1 : S → va_W} (hP : va_P D vwCl ws H) (hD : va_D A0 ws) (hS : va_S A0 H0 H locs) (hA : ∀ q, H0.size ≤ q → A0 q) (isC isR : List Nat) (hC : isC.map (fun i => ws[i]?) = wc.map some) (hR : isR.map (fun i => ws[i]?) = wr.map some) (hn : va_nd isR = true) (hdis : ∀ i ∈ isR, i ∉ isC)
    (hr : va_Run p l e R s m args below meth c H locs cells slots mc ms (F0 m pc ls st0) rest (va_Qv post (fun u t => va_P D vwCl (w1 u) t.heap ∧ va_D (va_A wc H.size) (w1 u)) (va_A wc H.size) a) (va_A wc H.size))
    (kk : ∀ (u : S) (H1 : Heap) (locs1 : List Loc), post u → va_P D vwCl (wr ++ w1 u) H1 → va_D A0 (wr ++ w1 u) → va_S A0 H0 H1 locs1 → W p l e R s m args below meth c H1 locs1 (cells + mc) (slots + ms) Q (F0 m (pc + 3) ls rest)) : W p l e R s m args below meth c H locs cells slots Q (F0 m pc ls st0) := by
  have hF := va_free hD hS hA isC hC
  refine va_callv hr hS (fun q _ h => hF q h) hF (fun u t H1 locs1 ht hvm hw hB hz1 hk1 hS1 => ?_)
  obtain ⟨hP1, hD1⟩ := wx_join hP hD hS hA isC isR hC hR hn hdis ht hk1 hB.1 hB.2
  exact kk u H1 locs1 hw hP1 hD1 hS1
theorem wx_ci {S : Type} {post : Int32 → S → Prop} {w1 : S → va_W} (hP : va_P D vwCl ws H) (hD : va_D A0 ws) (hS : va_S A0 H0 H locs) (hA : ∀ q, H0.size ≤ q → A0 q) (isC isR : List Nat) (hC : isC.map (fun i => ws[i]?) = wc.map some) (hR : isR.map (fun i => ws[i]?) = wr.map some) (hn : va_nd isR = true) (hdis : ∀ i ∈ isR, i ∉ isC)
    (hr : va_Run p l e R s m args below meth c H locs cells slots mc ms (F0 m pc ls st0) rest (va_Qi post (fun u t => va_P D vwCl (w1 u) t.heap ∧ va_D (va_A wc H.size) (w1 u)) (va_A wc H.size) a) (va_A wc H.size))
    (kk : ∀ (r : Int32) (u : S) (H1 : Heap) (locs1 : List Loc), post r u → va_P D vwCl (wr ++ w1 u) H1 → va_D A0 (wr ++ w1 u) → va_S A0 H0 H1 locs1 → W p l e R s m args below meth c H1 locs1 (cells + mc) (slots + ms) Q (F0 m (pc + 3) ls (.int r :: rest))) : W p l e R s m args below meth c H locs cells slots Q (F0 m pc ls st0) := by
  have hF := va_free hD hS hA isC hC
  refine va_calli hr hS (fun q _ h => hF q h) hF (fun r u t H1 locs1 ht hvm hw hB hz1 hk1 hS1 => ?_)
  obtain ⟨hP1, hD1⟩ := wx_join hP hD hS hA isC isR hC hR hn hdis ht hk1 hB.1 hB.2
  exact kk r u H1 locs1 hw hP1 hD1 hS1
theorem wx_cl {S : Type} {post : Int64 → S → Prop} {w1 : S → va_W} (hP : va_P D vwCl ws H) (hD : va_D A0 ws) (hS : va_S A0 H0 H locs) (hA : ∀ q, H0.size ≤ q → A0 q) (isC isR : List Nat) (hC : isC.map (fun i => ws[i]?) = wc.map some) (hR : isR.map (fun i => ws[i]?) = wr.map some) (hn : va_nd isR = true) (hdis : ∀ i ∈ isR, i ∉ isC)
    (hr : va_Run p l e R s m args below meth c H locs cells slots mc ms (F0 m pc ls st0) rest (va_Ql post (fun u t => va_P D vwCl (w1 u) t.heap ∧ va_D (va_A wc H.size) (w1 u)) (va_A wc H.size) a) (va_A wc H.size))
    (kk : ∀ (r : Int64) (u : S) (H1 : Heap) (locs1 : List Loc), post r u → va_P D vwCl (wr ++ w1 u) H1 → va_D A0 (wr ++ w1 u) → va_S A0 H0 H1 locs1 → W p l e R s m args below meth c H1 locs1 (cells + mc) (slots + ms) Q (F0 m (pc + 3) ls (.long r :: rest))) : W p l e R s m args below meth c H locs cells slots Q (F0 m pc ls st0) := by
  have hF := va_free hD hS hA isC hC
  refine va_calll hr hS (fun q _ h => hF q h) hF (fun r u t H1 locs1 ht hvm hw hB hz1 hk1 hS1 => ?_)
  obtain ⟨hP1, hD1⟩ := wx_join hP hD hS hA isC isR hC hR hn hdis ht hk1 hB.1 hB.2
  exact kk r u H1 locs1 hw hP1 hD1 hS1
end WX
end
section
set_option maxHeartbeats 4000000 in
set_option maxRecDepth 100000 in
theorem c_R_orderEchoes (l : Launch) (dC : Nat → ClassId) (dI : Nat → Nat → Nat) (cI cL : ClassId) (aR : Nat) (aX : Nat) (aY : Nat) (aZ : Nat) (aK : Nat) (aF : Nat) (aE : Nat) (aL : Nat) (od : Int32) (wd : Int32) (wX : Int32) (sX : Int32) (tX : Int32) (rX : Nat) (kX : Nat) (wY : Int32) (sY : Int32) (tY : Int32) (rY : Nat) (kY : Nat) (wZ : Int32) (sZ : Int32) (tZ : Int32) (rZ : Nat) (kZ : Nat) (fX : Nat → Int64) (fY : Nat → Int64) (fZ : Nat → Int64) (gX : Nat → Int32) (gY : Nat → Int32) (gZ : Nat → Int32) (aH : Nat) (n : Nat) (f : Nat → Int64) (E0 : Nat → Int64) (sz : Nat) (hX : axok wX sX tX) (hY : axok wY sY tY) (hZ : axok wZ sZ tZ) (ho : od = 0 ∨ (od = 1 ∧ ES wX sX tX wY sY tY wZ sZ tZ E0)) : Met l y_R_orderEchoes w_R_orderEchoes ({ frames := 4, cells := 0, slots := 0, locals := 98 }) (wr_P (dC, dI) cI cL [(aR, .inr (2, [.ref aX, .ref aY, .ref aZ, .ref aK, .ref aF, .ref aE, .ref aL, .int od, .int wd])), (aX, .inr (0, [.int wX, .int sX, .int tX, .ref rX, .ref kX])), (aY, .inr (0, [.int wY, .int sY, .int tY, .ref rY, .ref kY])), (aZ, .inr (0, [.int wZ, .int sZ, .int tZ, .ref rZ, .ref kZ])), (rX, .inl (cL, 81, .inr (.inl fX))), (rY, .inl (cL, 81, .inr (.inl fY))), (rZ, .inl (cL, 81, .inr (.inl fZ))), (kX, .inl (cI, 81, .inl gX)), (kY, .inl (cI, 81, .inl gY)), (kZ, .inl (cI, 81, .inl gZ)), (aF, .inr (1, [.ref aH, .int (nI n)])), (aH, .inl (cL, 1001, .inr (.inl f))), (aE, .inl (cL, 500, .inr (.inl E0)))] sz [.ref aR]) (va_Qv (fun (u : (Nat → Int64) × (Nat → Int64) × (Nat → Int64) × (Nat → Int32) × (Nat → Int32) × (Nat → Int32) × (Nat) × (Nat → Int64) × (Nat → Int64)) => ES wX sX tX wY sY tY wZ sZ tZ u.2.2.2.2.2.2.2.2 ∧ (od = 1 → u.2.2.2.2.2.2.2.2 = E0)) (fun u t => va_P (dC, dI) vwCl [(aR, .inr (2, [.ref aX, .ref aY, .ref aZ, .ref aK, .ref aF, .ref aE, .ref aL, .int 1, .int wd])), (aX, .inr (0, [.int wX, .int sX, .int tX, .ref rX, .ref kX])), (aY, .inr (0, [.int wY, .int sY, .int tY, .ref rY, .ref kY])), (aZ, .inr (0, [.int wZ, .int sZ, .int tZ, .ref rZ, .ref kZ])), (rX, .inl (cL, 81, .inr (.inl u.1))), (rY, .inl (cL, 81, .inr (.inl u.2.1))), (rZ, .inl (cL, 81, .inr (.inl u.2.2.1))), (kX, .inl (cI, 81, .inl u.2.2.2.1)), (kY, .inl (cI, 81, .inl u.2.2.2.2.1)), (kZ, .inl (cI, 81, .inl u.2.2.2.2.2.1)), (aF, .inr (1, [.ref aH, .int (nI u.2.2.2.2.2.2.1)])), (aH, .inl (cL, 1001, .inr (.inl u.2.2.2.2.2.2.2.1))), (aE, .inl (cL, 500, .inr (.inl u.2.2.2.2.2.2.2.2)))] t.heap ∧ va_D (va_A [(aR, .inr (2, [.ref aX, .ref aY, .ref aZ, .ref aK, .ref aF, .ref aE, .ref aL, .int od, .int wd])), (aX, .inr (0, [.int wX, .int sX, .int tX, .ref rX, .ref kX])), (aY, .inr (0, [.int wY, .int sY, .int tY, .ref rY, .ref kY])), (aZ, .inr (0, [.int wZ, .int sZ, .int tZ, .ref rZ, .ref kZ])), (rX, .inl (cL, 81, .inr (.inl fX))), (rY, .inl (cL, 81, .inr (.inl fY))), (rZ, .inl (cL, 81, .inr (.inl fZ))), (kX, .inl (cI, 81, .inl gX)), (kY, .inl (cI, 81, .inl gY)), (kZ, .inl (cI, 81, .inl gZ)), (aF, .inr (1, [.ref aH, .int (nI n)])), (aH, .inl (cL, 1001, .inr (.inl f))), (aE, .inl (cL, 500, .inr (.inl E0)))] sz) [(aR, .inr (2, [.ref aX, .ref aY, .ref aZ, .ref aK, .ref aF, .ref aE, .ref aL, .int 1, .int wd])), (aX, .inr (0, [.int wX, .int sX, .int tX, .ref rX, .ref kX])), (aY, .inr (0, [.int wY, .int sY, .int tY, .ref rY, .ref kY])), (aZ, .inr (0, [.int wZ, .int sZ, .int tZ, .ref rZ, .ref kZ])), (rX, .inl (cL, 81, .inr (.inl u.1))), (rY, .inl (cL, 81, .inr (.inl u.2.1))), (rZ, .inl (cL, 81, .inr (.inl u.2.2.1))), (kX, .inl (cI, 81, .inl u.2.2.2.1)), (kY, .inl (cI, 81, .inl u.2.2.2.2.1)), (kZ, .inl (cI, 81, .inl u.2.2.2.2.2.1)), (aF, .inr (1, [.ref aH, .int (nI u.2.2.2.2.2.2.1)])), (aH, .inl (cL, 1001, .inr (.inl u.2.2.2.2.2.2.2.1))), (aE, .inl (cL, 500, .inr (.inl u.2.2.2.2.2.2.2.2)))]) (va_A [(aR, .inr (2, [.ref aX, .ref aY, .ref aZ, .ref aK, .ref aF, .ref aE, .ref aL, .int od, .int wd])), (aX, .inr (0, [.int wX, .int sX, .int tX, .ref rX, .ref kX])), (aY, .inr (0, [.int wY, .int sY, .int tY, .ref rY, .ref kY])), (aZ, .inr (0, [.int wZ, .int sZ, .int tZ, .ref rZ, .ref kZ])), (rX, .inl (cL, 81, .inr (.inl fX))), (rY, .inl (cL, 81, .inr (.inl fY))), (rZ, .inl (cL, 81, .inr (.inl fZ))), (kX, .inl (cI, 81, .inl gX)), (kY, .inl (cI, 81, .inl gY)), (kZ, .inl (cI, 81, .inl gZ)), (aF, .inr (1, [.ref aH, .int (nI n)])), (aH, .inl (cL, 1001, .inr (.inl f))), (aE, .inl (cL, 500, .inr (.inl E0)))] sz)) 0 0 (va_A [(aR, .inr (2, [.ref aX, .ref aY, .ref aZ, .ref aK, .ref aF, .ref aE, .ref aL, .int od, .int wd])), (aX, .inr (0, [.int wX, .int sX, .int tX, .ref rX, .ref kX])), (aY, .inr (0, [.int wY, .int sY, .int tY, .ref rY, .ref kY])), (aZ, .inr (0, [.int wZ, .int sZ, .int tZ, .ref rZ, .ref kZ])), (rX, .inl (cL, 81, .inr (.inl fX))), (rY, .inl (cL, 81, .inr (.inl fY))), (rZ, .inl (cL, 81, .inr (.inl fZ))), (kX, .inl (cI, 81, .inl gX)), (kY, .inl (cI, 81, .inl gY)), (kZ, .inl (cI, 81, .inl gZ)), (aF, .inr (1, [.ref aH, .int (nI n)])), (aH, .inl (cL, 1001, .inr (.inl f))), (aE, .inl (cL, 500, .inr (.inl E0)))] sz) := by
  refine Met.ofW (cc := b_R_orderEchoes) (maxL := 4) (ret := none) (by decide) rfl ?_
  intro p e s m args below meth c s₁ B hml hv
  obtain ⟨rfl, hsz, hP, hM, hD0⟩ := hv
  have hx := B.exec
  have hb := B.bytes
  have hr := B.returns
  have hts := atoms_spec (ws := w_R_orderEchoes) B.pre
  have hown : s.vm.findClass "RoomEchoes" = some m.cls := findClass_of_methodNamed B.named
  have hlocks := B.notSynchronized
  have hK := hM.1
  subst hsz
  have hD := hD0.self (sz := s.heap.size)
  generalize hAe : va_A [(aR, .inr (2, [.ref aX, .ref aY, .ref aZ, .ref aK, .ref aF, .ref aE, .ref aL, .int od, .int wd])), (aX, .inr (0, [.int wX, .int sX, .int tX, .ref rX, .ref kX])), (aY, .inr (0, [.int wY, .int sY, .int tY, .ref rY, .ref kY])), (aZ, .inr (0, [.int wZ, .int sZ, .int tZ, .ref rZ, .ref kZ])), (rX, .inl (cL, 81, .inr (.inl fX))), (rY, .inl (cL, 81, .inr (.inl fY))), (rZ, .inl (cL, 81, .inr (.inl fZ))), (kX, .inl (cI, 81, .inl gX)), (kY, .inl (cI, 81, .inl gY)), (kZ, .inl (cI, 81, .inl gZ)), (aF, .inr (1, [.ref aH, .int (nI n)])), (aH, .inl (cL, 1001, .inr (.inl f))), (aE, .inl (cL, 500, .inr (.inl E0)))] s.heap.size = A at hD ⊢
  have hA : ∀ q : Nat, s.heap.size ≤ q → A q := fun q h => by rw [← hAe]; exact Or.inr h
  have hS : va_S A s.heap s.heap [] := va_S.rf
  have hP : va_P (dC, dI) vwCl [(aR, .inr (2, [.ref aX, .ref aY, .ref aZ, .ref aK, .ref aF, .ref aE, .ref aL, .int od, .int wd])), (aX, .inr (0, [.int wX, .int sX, .int tX, .ref rX, .ref kX])), (aY, .inr (0, [.int wY, .int sY, .int tY, .ref rY, .ref kY])), (aZ, .inr (0, [.int wZ, .int sZ, .int tZ, .ref rZ, .ref kZ])), (rX, .inl (cL, 81, .inr (.inl fX))), (rY, .inl (cL, 81, .inr (.inl fY))), (rZ, .inl (cL, 81, .inr (.inl fZ))), (kX, .inl (cI, 81, .inl gX)), (kY, .inl (cI, 81, .inl gY)), (kZ, .inl (cI, 81, .inl gZ)), (aF, .inr (1, [.ref aH, .int (nI n)])), (aH, .inl (cL, 1001, .inr (.inl f))), (aE, .inl (cL, 500, .inr (.inl E0)))] s.heap := hP
  have hl := lv_entry ([.ref aR]) (n := 4) (Nat.le_of_ble_eq_true rfl)
  rw [lg_entry_eq]
  generalize (lg_sl ([.ref aR]) ++ List.replicate (4 - (lg_sl ([.ref aR])).length) Slot.unset).toArray = ls at hl ⊢
  have hl : lv_has ls 4 [(0, .ref aR)] := hl
  refine lv_aload_n hx hb d_R_orderEchoes_0 rfl (lv_at hl 0 rfl) ?_
  refine va_get (D := (dC, dI)) (ci := 2) (v := .int od) (C := "RoomEchoes") (T := FT_R) (N := 9) hx hb hts (hi_ in_R) hown hK hP 0 rfl rfl 7 (by decide) (ht_ hts mw103) (fun _ h9 => h9) rfl d_R_orderEchoes_1 ?_
  refine lv_if_eq (tgt := 8) hx hb d_R_orderEchoes_4 (by decide) (fun c_4 => ?_) (fun c_4 => ?_)
  · skip
    refine lv_aload_n hx hb d_R_orderEchoes_8 rfl (lv_at hl 0 rfl) ?_
    refine va_get (D := (dC, dI)) (ci := 2) (v := .ref aX) (C := "RoomEchoes") (T := FT_R) (N := 9) hx hb hts (hi_ in_R) hown hK hP 0 rfl rfl 0 (by decide) (ht_ hts mw96) (fun _ h9 => h9) rfl d_R_orderEchoes_9 ?_
    have hPc := hP.sub (ws' := [(aX, .inr (0, [.int wX, .int sX, .int tX, .ref rX, .ref kX])), (rX, .inl (cL, 81, .inr (.inl fX))), (kX, .inl (cI, 81, .inl gX))]) [1, 4, 7] rfl
    have hDc := hD.sub (ws' := [(aX, .inr (0, [.int wX, .int sX, .int tX, .ref rX, .ref kX])), (rX, .inl (cL, 81, .inr (.inl fX))), (kX, .inl (cI, 81, .inl gX))]) [1, 4, 7] (by decide) rfl
    refine wr_cv (wr := [(aR, .inr (2, [.ref aX, .ref aY, .ref aZ, .ref aK, .ref aF, .ref aE, .ref aL, .int od, .int wd])), (aY, .inr (0, [.int wY, .int sY, .int tY, .ref rY, .ref kY])), (aZ, .inr (0, [.int wZ, .int sZ, .int tZ, .ref rZ, .ref kZ])), (rY, .inl (cL, 81, .inr (.inl fY))), (rZ, .inl (cL, 81, .inr (.inl fZ))), (kY, .inl (cI, 81, .inl gY)), (kZ, .inl (cI, 81, .inl gZ)), (aF, .inr (1, [.ref aH, .int (nI n)])), (aH, .inl (cL, 1001, .inr (.inl f))), (aE, .inl (cL, 500, .inr (.inl E0)))]) (w1 := [(aX, .inr (0, [.int wX, .int sX, .int tX, .ref rX, .ref kX])), (rX, .inl (cL, 81, .inr (.inl (pu_ord (j_axK wX sX tX) fX 40)))), (kX, .inl (cI, 81, .inl (j_rk (pu_ord (j_axK wX sX tX) fX 40) gX 81)))]) hP hD hS hA [1, 4, 7] [0, 2, 3, 5, 6, 8, 9, 10, 11, 12] rfl rfl (by decide) (by decide) (va_runV (As := []) (rest := []) ⟨hx, hb, hml, hown, hts⟩ (c_A_order l dC dI cI cL aX wX sX tX rX kX fX gX _) (cwV 0 hts (gi_V mw289 mw286 mw287 mw288 mw32) rfl rfl rfl (by decide +kernel) ⟨Nat.le_of_ble_eq_true rfl, Nat.le_of_ble_eq_true rfl⟩) (wr_V hM hPc hDc rfl rfl rfl) rfl rfl hl.1 rfl (lv_room (Nat.le_of_ble_eq_true rfl)) d_R_orderEchoes_12 ⟨Nat.le_of_ble_eq_true rfl, Nat.le_of_ble_eq_true rfl⟩) (fun H locs hP hD hS => ?_)
    have hP := hP.sub (ws' := [(aR, .inr (2, [.ref aX, .ref aY, .ref aZ, .ref aK, .ref aF, .ref aE, .ref aL, .int od, .int wd])), (aX, .inr (0, [.int wX, .int sX, .int tX, .ref rX, .ref kX])), (aY, .inr (0, [.int wY, .int sY, .int tY, .ref rY, .ref kY])), (aZ, .inr (0, [.int wZ, .int sZ, .int tZ, .ref rZ, .ref kZ])), (rX, .inl (cL, 81, .inr (.inl (pu_ord (j_axK wX sX tX) fX 40)))), (rY, .inl (cL, 81, .inr (.inl fY))), (rZ, .inl (cL, 81, .inr (.inl fZ))), (kX, .inl (cI, 81, .inl (j_rk (pu_ord (j_axK wX sX tX) fX 40) gX 81))), (kY, .inl (cI, 81, .inl gY)), (kZ, .inl (cI, 81, .inl gZ)), (aF, .inr (1, [.ref aH, .int (nI n)])), (aH, .inl (cL, 1001, .inr (.inl f))), (aE, .inl (cL, 500, .inr (.inl E0)))]) [0, 10, 1, 2, 11, 3, 4, 12, 5, 6, 7, 8, 9] rfl
    have hD := hD.sub (ws' := [(aR, .inr (2, [.ref aX, .ref aY, .ref aZ, .ref aK, .ref aF, .ref aE, .ref aL, .int od, .int wd])), (aX, .inr (0, [.int wX, .int sX, .int tX, .ref rX, .ref kX])), (aY, .inr (0, [.int wY, .int sY, .int tY, .ref rY, .ref kY])), (aZ, .inr (0, [.int wZ, .int sZ, .int tZ, .ref rZ, .ref kZ])), (rX, .inl (cL, 81, .inr (.inl (pu_ord (j_axK wX sX tX) fX 40)))), (rY, .inl (cL, 81, .inr (.inl fY))), (rZ, .inl (cL, 81, .inr (.inl fZ))), (kX, .inl (cI, 81, .inl (j_rk (pu_ord (j_axK wX sX tX) fX 40) gX 81))), (kY, .inl (cI, 81, .inl gY)), (kZ, .inl (cI, 81, .inl gZ)), (aF, .inr (1, [.ref aH, .int (nI n)])), (aH, .inl (cL, 1001, .inr (.inl f))), (aE, .inl (cL, 500, .inr (.inl E0)))]) [0, 10, 1, 2, 11, 3, 4, 12, 5, 6, 7, 8, 9] (by decide) rfl
    refine lv_aload_n hx hb d_R_orderEchoes_15 rfl (lv_at hl 0 rfl) ?_
    refine va_get (D := (dC, dI)) (ci := 2) (v := .ref aY) (C := "RoomEchoes") (T := FT_R) (N := 9) hx hb hts (hi_ in_R) hown hK hP 0 rfl rfl 1 (by decide) (ht_ hts mw97) (fun _ h9 => h9) rfl d_R_orderEchoes_16 ?_
    have hPc := hP.sub (ws' := [(aY, .inr (0, [.int wY, .int sY, .int tY, .ref rY, .ref kY])), (rY, .inl (cL, 81, .inr (.inl fY))), (kY, .inl (cI, 81, .inl gY))]) [2, 5, 8] rfl
    have hDc := hD.sub (ws' := [(aY, .inr (0, [.int wY, .int sY, .int tY, .ref rY, .ref kY])), (rY, .inl (cL, 81, .inr (.inl fY))), (kY, .inl (cI, 81, .inl gY))]) [2, 5, 8] (by decide) rfl
    refine wr_cv (wr := [(aR, .inr (2, [.ref aX, .ref aY, .ref aZ, .ref aK, .ref aF, .ref aE, .ref aL, .int od, .int wd])), (aX, .inr (0, [.int wX, .int sX, .int tX, .ref rX, .ref kX])), (aZ, .inr (0, [.int wZ, .int sZ, .int tZ, .ref rZ, .ref kZ])), (rX, .inl (cL, 81, .inr (.inl (pu_ord (j_axK wX sX tX) fX 40)))), (rZ, .inl (cL, 81, .inr (.inl fZ))), (kX, .inl (cI, 81, .inl (j_rk (pu_ord (j_axK wX sX tX) fX 40) gX 81))), (kZ, .inl (cI, 81, .inl gZ)), (aF, .inr (1, [.ref aH, .int (nI n)])), (aH, .inl (cL, 1001, .inr (.inl f))), (aE, .inl (cL, 500, .inr (.inl E0)))]) (w1 := [(aY, .inr (0, [.int wY, .int sY, .int tY, .ref rY, .ref kY])), (rY, .inl (cL, 81, .inr (.inl (pu_ord (j_axK wY sY tY) fY 40)))), (kY, .inl (cI, 81, .inl (j_rk (pu_ord (j_axK wY sY tY) fY 40) gY 81)))]) hP hD hS hA [2, 5, 8] [0, 1, 3, 4, 6, 7, 9, 10, 11, 12] rfl rfl (by decide) (by decide) (va_runV (As := []) (rest := []) ⟨hx, hb, hml, hown, hts⟩ (c_A_order l dC dI cI cL aY wY sY tY rY kY fY gY _) (cwV 0 hts (gi_V mw289 mw286 mw287 mw288 mw32) rfl rfl rfl (by decide +kernel) ⟨Nat.le_of_ble_eq_true rfl, Nat.le_of_ble_eq_true rfl⟩) (wr_V hM hPc hDc rfl rfl rfl) rfl rfl hl.1 rfl (lv_room (Nat.le_of_ble_eq_true rfl)) d_R_orderEchoes_19 ⟨Nat.le_of_ble_eq_true rfl, Nat.le_of_ble_eq_true rfl⟩) (fun H locs hP hD hS => ?_)
    have hP := hP.sub (ws' := [(aR, .inr (2, [.ref aX, .ref aY, .ref aZ, .ref aK, .ref aF, .ref aE, .ref aL, .int od, .int wd])), (aX, .inr (0, [.int wX, .int sX, .int tX, .ref rX, .ref kX])), (aY, .inr (0, [.int wY, .int sY, .int tY, .ref rY, .ref kY])), (aZ, .inr (0, [.int wZ, .int sZ, .int tZ, .ref rZ, .ref kZ])), (rX, .inl (cL, 81, .inr (.inl (pu_ord (j_axK wX sX tX) fX 40)))), (rY, .inl (cL, 81, .inr (.inl (pu_ord (j_axK wY sY tY) fY 40)))), (rZ, .inl (cL, 81, .inr (.inl fZ))), (kX, .inl (cI, 81, .inl (j_rk (pu_ord (j_axK wX sX tX) fX 40) gX 81))), (kY, .inl (cI, 81, .inl (j_rk (pu_ord (j_axK wY sY tY) fY 40) gY 81))), (kZ, .inl (cI, 81, .inl gZ)), (aF, .inr (1, [.ref aH, .int (nI n)])), (aH, .inl (cL, 1001, .inr (.inl f))), (aE, .inl (cL, 500, .inr (.inl E0)))]) [0, 1, 10, 2, 3, 11, 4, 5, 12, 6, 7, 8, 9] rfl
    have hD := hD.sub (ws' := [(aR, .inr (2, [.ref aX, .ref aY, .ref aZ, .ref aK, .ref aF, .ref aE, .ref aL, .int od, .int wd])), (aX, .inr (0, [.int wX, .int sX, .int tX, .ref rX, .ref kX])), (aY, .inr (0, [.int wY, .int sY, .int tY, .ref rY, .ref kY])), (aZ, .inr (0, [.int wZ, .int sZ, .int tZ, .ref rZ, .ref kZ])), (rX, .inl (cL, 81, .inr (.inl (pu_ord (j_axK wX sX tX) fX 40)))), (rY, .inl (cL, 81, .inr (.inl (pu_ord (j_axK wY sY tY) fY 40)))), (rZ, .inl (cL, 81, .inr (.inl fZ))), (kX, .inl (cI, 81, .inl (j_rk (pu_ord (j_axK wX sX tX) fX 40) gX 81))), (kY, .inl (cI, 81, .inl (j_rk (pu_ord (j_axK wY sY tY) fY 40) gY 81))), (kZ, .inl (cI, 81, .inl gZ)), (aF, .inr (1, [.ref aH, .int (nI n)])), (aH, .inl (cL, 1001, .inr (.inl f))), (aE, .inl (cL, 500, .inr (.inl E0)))]) [0, 1, 10, 2, 3, 11, 4, 5, 12, 6, 7, 8, 9] (by decide) rfl
    refine lv_aload_n hx hb d_R_orderEchoes_22 rfl (lv_at hl 0 rfl) ?_
    refine va_get (D := (dC, dI)) (ci := 2) (v := .ref aZ) (C := "RoomEchoes") (T := FT_R) (N := 9) hx hb hts (hi_ in_R) hown hK hP 0 rfl rfl 2 (by decide) (ht_ hts mw98) (fun _ h9 => h9) rfl d_R_orderEchoes_23 ?_
    have hPc := hP.sub (ws' := [(aZ, .inr (0, [.int wZ, .int sZ, .int tZ, .ref rZ, .ref kZ])), (rZ, .inl (cL, 81, .inr (.inl fZ))), (kZ, .inl (cI, 81, .inl gZ))]) [3, 6, 9] rfl
    have hDc := hD.sub (ws' := [(aZ, .inr (0, [.int wZ, .int sZ, .int tZ, .ref rZ, .ref kZ])), (rZ, .inl (cL, 81, .inr (.inl fZ))), (kZ, .inl (cI, 81, .inl gZ))]) [3, 6, 9] (by decide) rfl
    refine wr_cv (wr := [(aR, .inr (2, [.ref aX, .ref aY, .ref aZ, .ref aK, .ref aF, .ref aE, .ref aL, .int od, .int wd])), (aX, .inr (0, [.int wX, .int sX, .int tX, .ref rX, .ref kX])), (aY, .inr (0, [.int wY, .int sY, .int tY, .ref rY, .ref kY])), (rX, .inl (cL, 81, .inr (.inl (pu_ord (j_axK wX sX tX) fX 40)))), (rY, .inl (cL, 81, .inr (.inl (pu_ord (j_axK wY sY tY) fY 40)))), (kX, .inl (cI, 81, .inl (j_rk (pu_ord (j_axK wX sX tX) fX 40) gX 81))), (kY, .inl (cI, 81, .inl (j_rk (pu_ord (j_axK wY sY tY) fY 40) gY 81))), (aF, .inr (1, [.ref aH, .int (nI n)])), (aH, .inl (cL, 1001, .inr (.inl f))), (aE, .inl (cL, 500, .inr (.inl E0)))]) (w1 := [(aZ, .inr (0, [.int wZ, .int sZ, .int tZ, .ref rZ, .ref kZ])), (rZ, .inl (cL, 81, .inr (.inl (pu_ord (j_axK wZ sZ tZ) fZ 40)))), (kZ, .inl (cI, 81, .inl (j_rk (pu_ord (j_axK wZ sZ tZ) fZ 40) gZ 81)))]) hP hD hS hA [3, 6, 9] [0, 1, 2, 4, 5, 7, 8, 10, 11, 12] rfl rfl (by decide) (by decide) (va_runV (As := []) (rest := []) ⟨hx, hb, hml, hown, hts⟩ (c_A_order l dC dI cI cL aZ wZ sZ tZ rZ kZ fZ gZ _) (cwV 0 hts (gi_V mw289 mw286 mw287 mw288 mw32) rfl rfl rfl (by decide +kernel) ⟨Nat.le_of_ble_eq_true rfl, Nat.le_of_ble_eq_true rfl⟩) (wr_V hM hPc hDc rfl rfl rfl) rfl rfl hl.1 rfl (lv_room (Nat.le_of_ble_eq_true rfl)) d_R_orderEchoes_26 ⟨Nat.le_of_ble_eq_true rfl, Nat.le_of_ble_eq_true rfl⟩) (fun H locs hP hD hS => ?_)
    have hP := hP.sub (ws' := [(aR, .inr (2, [.ref aX, .ref aY, .ref aZ, .ref aK, .ref aF, .ref aE, .ref aL, .int od, .int wd])), (aX, .inr (0, [.int wX, .int sX, .int tX, .ref rX, .ref kX])), (aY, .inr (0, [.int wY, .int sY, .int tY, .ref rY, .ref kY])), (aZ, .inr (0, [.int wZ, .int sZ, .int tZ, .ref rZ, .ref kZ])), (rX, .inl (cL, 81, .inr (.inl (pu_ord (j_axK wX sX tX) fX 40)))), (rY, .inl (cL, 81, .inr (.inl (pu_ord (j_axK wY sY tY) fY 40)))), (rZ, .inl (cL, 81, .inr (.inl (pu_ord (j_axK wZ sZ tZ) fZ 40)))), (kX, .inl (cI, 81, .inl (j_rk (pu_ord (j_axK wX sX tX) fX 40) gX 81))), (kY, .inl (cI, 81, .inl (j_rk (pu_ord (j_axK wY sY tY) fY 40) gY 81))), (kZ, .inl (cI, 81, .inl (j_rk (pu_ord (j_axK wZ sZ tZ) fZ 40) gZ 81))), (aF, .inr (1, [.ref aH, .int (nI n)])), (aH, .inl (cL, 1001, .inr (.inl f))), (aE, .inl (cL, 500, .inr (.inl E0)))]) [0, 1, 2, 10, 3, 4, 11, 5, 6, 12, 7, 8, 9] rfl
    have hD := hD.sub (ws' := [(aR, .inr (2, [.ref aX, .ref aY, .ref aZ, .ref aK, .ref aF, .ref aE, .ref aL, .int od, .int wd])), (aX, .inr (0, [.int wX, .int sX, .int tX, .ref rX, .ref kX])), (aY, .inr (0, [.int wY, .int sY, .int tY, .ref rY, .ref kY])), (aZ, .inr (0, [.int wZ, .int sZ, .int tZ, .ref rZ, .ref kZ])), (rX, .inl (cL, 81, .inr (.inl (pu_ord (j_axK wX sX tX) fX 40)))), (rY, .inl (cL, 81, .inr (.inl (pu_ord (j_axK wY sY tY) fY 40)))), (rZ, .inl (cL, 81, .inr (.inl (pu_ord (j_axK wZ sZ tZ) fZ 40)))), (kX, .inl (cI, 81, .inl (j_rk (pu_ord (j_axK wX sX tX) fX 40) gX 81))), (kY, .inl (cI, 81, .inl (j_rk (pu_ord (j_axK wY sY tY) fY 40) gY 81))), (kZ, .inl (cI, 81, .inl (j_rk (pu_ord (j_axK wZ sZ tZ) fZ 40) gZ 81))), (aF, .inr (1, [.ref aH, .int (nI n)])), (aH, .inl (cL, 1001, .inr (.inl f))), (aE, .inl (cL, 500, .inr (.inl E0)))]) [0, 1, 2, 10, 3, 4, 11, 5, 6, 12, 7, 8, 9] (by decide) rfl
    refine lv_aload_n hx hb d_R_orderEchoes_29 rfl (lv_at hl 0 rfl) ?_
    refine va_get (D := (dC, dI)) (ci := 2) (v := .ref aF) (C := "RoomEchoes") (T := FT_R) (N := 9) hx hb hts (hi_ in_R) hown hK hP 0 rfl rfl 4 (by decide) (ht_ hts mw100) (fun _ h9 => h9) rfl d_R_orderEchoes_30 ?_
    have hPc := hP.sub (ws' := [(aF, .inr (1, [.ref aH, .int (nI n)]))]) [10] rfl
    have hDc := hD.sub (ws' := [(aF, .inr (1, [.ref aH, .int (nI n)]))]) [10] (by decide) rfl
    refine wr_cv (wr := [(aR, .inr (2, [.ref aX, .ref aY, .ref aZ, .ref aK, .ref aF, .ref aE, .ref aL, .int od, .int wd])), (aX, .inr (0, [.int wX, .int sX, .int tX, .ref rX, .ref kX])), (aY, .inr (0, [.int wY, .int sY, .int tY, .ref rY, .ref kY])), (aZ, .inr (0, [.int wZ, .int sZ, .int tZ, .ref rZ, .ref kZ])), (rX, .inl (cL, 81, .inr (.inl (pu_ord (j_axK wX sX tX) fX 40)))), (rY, .inl (cL, 81, .inr (.inl (pu_ord (j_axK wY sY tY) fY 40)))), (rZ, .inl (cL, 81, .inr (.inl (pu_ord (j_axK wZ sZ tZ) fZ 40)))), (kX, .inl (cI, 81, .inl (j_rk (pu_ord (j_axK wX sX tX) fX 40) gX 81))), (kY, .inl (cI, 81, .inl (j_rk (pu_ord (j_axK wY sY tY) fY 40) gY 81))), (kZ, .inl (cI, 81, .inl (j_rk (pu_ord (j_axK wZ sZ tZ) fZ 40) gZ 81))), (aH, .inl (cL, 1001, .inr (.inl f))), (aE, .inl (cL, 500, .inr (.inl E0)))]) (w1 := [(aF, .inr (1, [.ref aH, .int (nI 0)]))]) hP hD hS hA [10] [0, 1, 2, 3, 4, 5, 6, 7, 8, 9, 11, 12] rfl rfl (by decide) (by decide) (va_runV (As := []) (rest := []) ⟨hx, hb, hml, hown, hts⟩ (c_F_clear l dC dI cI cL aF aH n _) (cwV 0 hts (gi_V mw309 mw306 mw307 mw308 mw31) rfl rfl rfl (by decide +kernel) ⟨Nat.le_of_ble_eq_true rfl, Nat.le_of_ble_eq_true rfl⟩) (wr_V hM hPc hDc rfl rfl rfl) rfl rfl hl.1 rfl (lv_room (Nat.le_of_ble_eq_true rfl)) d_R_orderEchoes_33 ⟨Nat.le_of_ble_eq_true rfl, Nat.le_of_ble_eq_true rfl⟩) (fun H locs hP hD hS => ?_)
    have hP := hP.sub (ws' := [(aR, .inr (2, [.ref aX, .ref aY, .ref aZ, .ref aK, .ref aF, .ref aE, .ref aL, .int od, .int wd])), (aX, .inr (0, [.int wX, .int sX, .int tX, .ref rX, .ref kX])), (aY, .inr (0, [.int wY, .int sY, .int tY, .ref rY, .ref kY])), (aZ, .inr (0, [.int wZ, .int sZ, .int tZ, .ref rZ, .ref kZ])), (rX, .inl (cL, 81, .inr (.inl (pu_ord (j_axK wX sX tX) fX 40)))), (rY, .inl (cL, 81, .inr (.inl (pu_ord (j_axK wY sY tY) fY 40)))), (rZ, .inl (cL, 81, .inr (.inl (pu_ord (j_axK wZ sZ tZ) fZ 40)))), (kX, .inl (cI, 81, .inl (j_rk (pu_ord (j_axK wX sX tX) fX 40) gX 81))), (kY, .inl (cI, 81, .inl (j_rk (pu_ord (j_axK wY sY tY) fY 40) gY 81))), (kZ, .inl (cI, 81, .inl (j_rk (pu_ord (j_axK wZ sZ tZ) fZ 40) gZ 81))), (aF, .inr (1, [.ref aH, .int (nI 0)])), (aH, .inl (cL, 1001, .inr (.inl f))), (aE, .inl (cL, 500, .inr (.inl E0)))]) [0, 1, 2, 3, 4, 5, 6, 7, 8, 9, 12, 10, 11] rfl
    have hD := hD.sub (ws' := [(aR, .inr (2, [.ref aX, .ref aY, .ref aZ, .ref aK, .ref aF, .ref aE, .ref aL, .int od, .int wd])), (aX, .inr (0, [.int wX, .int sX, .int tX, .ref rX, .ref kX])), (aY, .inr (0, [.int wY, .int sY, .int tY, .ref rY, .ref kY])), (aZ, .inr (0, [.int wZ, .int sZ, .int tZ, .ref rZ, .ref kZ])), (rX, .inl (cL, 81, .inr (.inl (pu_ord (j_axK wX sX tX) fX 40)))), (rY, .inl (cL, 81, .inr (.inl (pu_ord (j_axK wY sY tY) fY 40)))), (rZ, .inl (cL, 81, .inr (.inl (pu_ord (j_axK wZ sZ tZ) fZ 40)))), (kX, .inl (cI, 81, .inl (j_rk (pu_ord (j_axK wX sX tX) fX 40) gX 81))), (kY, .inl (cI, 81, .inl (j_rk (pu_ord (j_axK wY sY tY) fY 40) gY 81))), (kZ, .inl (cI, 81, .inl (j_rk (pu_ord (j_axK wZ sZ tZ) fZ 40) gZ 81))), (aF, .inr (1, [.ref aH, .int (nI 0)])), (aH, .inl (cL, 1001, .inr (.inl f))), (aE, .inl (cL, 500, .inr (.inl E0)))]) [0, 1, 2, 3, 4, 5, 6, 7, 8, 9, 12, 10, 11] (by decide) rfl
    obtain ⟨OX, eOX⟩ : ∃ x, x = pu_ord (j_axK wX sX tX) fX 40 := ⟨_, rfl⟩
    rw [← eOX] at hP hD
    obtain ⟨OY, eOY⟩ : ∃ x, x = pu_ord (j_axK wY sY tY) fY 40 := ⟨_, rfl⟩
    rw [← eOY] at hP hD
    obtain ⟨OZ, eOZ⟩ : ∃ x, x = pu_ord (j_axK wZ sZ tZ) fZ 40 := ⟨_, rfl⟩
    rw [← eOZ] at hP hD
    have hP : va_P (dC, dI) vwCl [(aR, .inr (2, [.ref aX, .ref aY, .ref aZ, .ref aK, .ref aF, .ref aE, .ref aL, .int od, .int wd])), (aX, .inr (0, [.int wX, .int sX, .int tX, .ref rX, .ref kX])), (aY, .inr (0, [.int wY, .int sY, .int tY, .ref rY, .ref kY])), (aZ, .inr (0, [.int wZ, .int sZ, .int tZ, .ref rZ, .ref kZ])), (rX, .inl (cL, 81, .inr (.inl OX))), (rY, .inl (cL, 81, .inr (.inl OY))), (rZ, .inl (cL, 81, .inr (.inl OZ))), (kX, .inl (cI, 81, .inl (j_rk OX gX 81))), (kY, .inl (cI, 81, .inl (j_rk OY gY 81))), (kZ, .inl (cI, 81, .inl (j_rk OZ gZ 81))), (aF, .inr (1, [.ref aH, .int (nI 0)])), (aH, .inl (cL, 1001, .inr (.inl f))), (aE, .inl (cL, 500, .inr (.inl E0)))] H := hP
    have hD : va_D A [(aR, .inr (2, [.ref aX, .ref aY, .ref aZ, .ref aK, .ref aF, .ref aE, .ref aL, .int od, .int wd])), (aX, .inr (0, [.int wX, .int sX, .int tX, .ref rX, .ref kX])), (aY, .inr (0, [.int wY, .int sY, .int tY, .ref rY, .ref kY])), (aZ, .inr (0, [.int wZ, .int sZ, .int tZ, .ref rZ, .ref kZ])), (rX, .inl (cL, 81, .inr (.inl OX))), (rY, .inl (cL, 81, .inr (.inl OY))), (rZ, .inl (cL, 81, .inr (.inl OZ))), (kX, .inl (cI, 81, .inl (j_rk OX gX 81))), (kY, .inl (cI, 81, .inl (j_rk OY gY 81))), (kZ, .inl (cI, 81, .inl (j_rk OZ gZ 81))), (aF, .inr (1, [.ref aH, .int (nI 0)])), (aH, .inl (cL, 1001, .inr (.inl f))), (aE, .inl (cL, 500, .inr (.inl E0)))] := hD
    have hOX : axrow wX sX tX OX := by rw [eOX]; exact ord_row hX fX
    have hOY : axrow wY sY tY OY := by rw [eOY]; exact ord_row hY fY
    have hOZ : axrow wZ sZ tZ OZ := by rw [eOZ]; exact ord_row hZ fZ
    refine lv_aload_n hx hb d_R_orderEchoes_36 rfl (lv_at hl 0 rfl) ?_
    refine lv_iconst (v := 0) hx hb d_R_orderEchoes_37 (by decide) ?_
    refine lv_iconst (v := 0) hx hb d_R_orderEchoes_38 (by decide) ?_
    refine lv_iconst (v := 0) hx hb d_R_orderEchoes_39 (by decide) ?_
    have hPc := hP.sub (ws' := [(aR, .inr (2, [.ref aX, .ref aY, .ref aZ, .ref aK, .ref aF, .ref aE, .ref aL, .int od, .int wd])), (aX, .inr (0, [.int wX, .int sX, .int tX, .ref rX, .ref kX])), (aY, .inr (0, [.int wY, .int sY, .int tY, .ref rY, .ref kY])), (aZ, .inr (0, [.int wZ, .int sZ, .int tZ, .ref rZ, .ref kZ])), (rX, .inl (cL, 81, .inr (.inl OX))), (rY, .inl (cL, 81, .inr (.inl OY))), (rZ, .inl (cL, 81, .inr (.inl OZ))), (aF, .inr (1, [.ref aH, .int (nI 0)])), (aH, .inl (cL, 1001, .inr (.inl f)))]) [0, 1, 2, 3, 4, 5, 6, 10, 11] rfl
    have hDc := hD.sub (ws' := [(aR, .inr (2, [.ref aX, .ref aY, .ref aZ, .ref aK, .ref aF, .ref aE, .ref aL, .int od, .int wd])), (aX, .inr (0, [.int wX, .int sX, .int tX, .ref rX, .ref kX])), (aY, .inr (0, [.int wY, .int sY, .int tY, .ref rY, .ref kY])), (aZ, .inr (0, [.int wZ, .int sZ, .int tZ, .ref rZ, .ref kZ])), (rX, .inl (cL, 81, .inr (.inl OX))), (rY, .inl (cL, 81, .inr (.inl OY))), (rZ, .inl (cL, 81, .inr (.inl OZ))), (aF, .inr (1, [.ref aH, .int (nI 0)])), (aH, .inl (cL, 1001, .inr (.inl f)))]) [0, 1, 2, 3, 4, 5, 6, 10, 11] (by decide) rfl
    refine wr_cv (wr := [(kX, .inl (cI, 81, .inl (j_rk OX gX 81))), (kY, .inl (cI, 81, .inl (j_rk OY gY 81))), (kZ, .inl (cI, 81, .inl (j_rk OZ gZ 81))), (aE, .inl (cL, 500, .inr (.inl E0)))]) (w1 := [(aR, .inr (2, [.ref aX, .ref aY, .ref aZ, .ref aK, .ref aF, .ref aE, .ref aL, .int od, .int wd])), (aX, .inr (0, [.int wX, .int sX, .int tX, .ref rX, .ref kX])), (aY, .inr (0, [.int wY, .int sY, .int tY, .ref rY, .ref kY])), (aZ, .inr (0, [.int wZ, .int sZ, .int tZ, .ref rZ, .ref kZ])), (rX, .inl (cL, 81, .inr (.inl OX))), (rY, .inl (cL, 81, .inr (.inl OY))), (rZ, .inl (cL, 81, .inr (.inl OZ))), (aF, .inr (1, [.ref aH, .int (nI (ad_n 0 0 0 0))])), (aH, .inl (cL, 1001, .inr (.inl (ad_f (ad_key OX OY OZ 0 0 0) 0 0 0 0 f))))]) hP hD hS hA [0, 1, 2, 3, 4, 5, 6, 10, 11] [7, 8, 9, 12] rfl rfl (by decide) (by decide) (va_runV (As := [.int 0, .int 0, .int 0]) (rest := []) ⟨hx, hb, hml, hown, hts⟩ (c_R_addAtRanks l dC dI cI cL aR aX aY aZ aK aF aE aL od wd wX sX tX rX kX wY sY tY rY kY wZ sZ tZ rZ kZ OX OY OZ aH 0 f 0 0 0 _ (by omega) (by omega) (by omega) (by omega)) (cwV 3 hts (gi_V mw313 mw310 mw312 mw8 mw30) rfl rfl rfl (by decide +kernel) ⟨Nat.le_of_ble_eq_true rfl, Nat.le_of_ble_eq_true rfl⟩) (wr_V hM hPc hDc rfl rfl rfl) rfl rfl hl.1 rfl (lv_room (Nat.le_of_ble_eq_true rfl)) d_R_orderEchoes_40 ⟨Nat.le_of_ble_eq_true rfl, Nat.le_of_ble_eq_true rfl⟩) (fun H locs hP hD hS => ?_)
    have hP := hP.sub (ws' := [(aR, .inr (2, [.ref aX, .ref aY, .ref aZ, .ref aK, .ref aF, .ref aE, .ref aL, .int od, .int wd])), (aX, .inr (0, [.int wX, .int sX, .int tX, .ref rX, .ref kX])), (aY, .inr (0, [.int wY, .int sY, .int tY, .ref rY, .ref kY])), (aZ, .inr (0, [.int wZ, .int sZ, .int tZ, .ref rZ, .ref kZ])), (rX, .inl (cL, 81, .inr (.inl OX))), (rY, .inl (cL, 81, .inr (.inl OY))), (rZ, .inl (cL, 81, .inr (.inl OZ))), (kX, .inl (cI, 81, .inl (j_rk OX gX 81))), (kY, .inl (cI, 81, .inl (j_rk OY gY 81))), (kZ, .inl (cI, 81, .inl (j_rk OZ gZ 81))), (aF, .inr (1, [.ref aH, .int (nI (ad_n 0 0 0 0))])), (aH, .inl (cL, 1001, .inr (.inl (ad_f (ad_key OX OY OZ 0 0 0) 0 0 0 0 f)))), (aE, .inl (cL, 500, .inr (.inl E0)))]) [4, 5, 6, 7, 8, 9, 10, 0, 1, 2, 11, 12, 3] rfl
    have hD := hD.sub (ws' := [(aR, .inr (2, [.ref aX, .ref aY, .ref aZ, .ref aK, .ref aF, .ref aE, .ref aL, .int od, .int wd])), (aX, .inr (0, [.int wX, .int sX, .int tX, .ref rX, .ref kX])), (aY, .inr (0, [.int wY, .int sY, .int tY, .ref rY, .ref kY])), (aZ, .inr (0, [.int wZ, .int sZ, .int tZ, .ref rZ, .ref kZ])), (rX, .inl (cL, 81, .inr (.inl OX))), (rY, .inl (cL, 81, .inr (.inl OY))), (rZ, .inl (cL, 81, .inr (.inl OZ))), (kX, .inl (cI, 81, .inl (j_rk OX gX 81))), (kY, .inl (cI, 81, .inl (j_rk OY gY 81))), (kZ, .inl (cI, 81, .inl (j_rk OZ gZ 81))), (aF, .inr (1, [.ref aH, .int (nI (ad_n 0 0 0 0))])), (aH, .inl (cL, 1001, .inr (.inl (ad_f (ad_key OX OY OZ 0 0 0) 0 0 0 0 f)))), (aE, .inl (cL, 500, .inr (.inl E0)))]) [4, 5, 6, 7, 8, 9, 10, 0, 1, 2, 11, 12, 3] (by decide) rfl
    refine lv_iconst (v := 0) hx hb d_R_orderEchoes_43 (by decide) ?_
    refine lv_istore_n (lv' := [(1, .int 0), (0, .ref aR)]) hx hb d_R_orderEchoes_44 rfl hl (by decide) rfl (fun ls hl => ?_)
    have lp : ∀ (n9 : Nat) (k : Nat) (E1 : Nat → Int64) (f1 : Nat → Int64) (n1 : Nat), 500 < k + n9 → k ≤ 500 → oe OX OY OZ (j_rk OX gX 81) (j_rk OY gY 81) (j_rk OZ gZ 81) E0 f k = (E1, f1, n1) → pu_FI 81 (ad_key OX OY OZ) E1 f1 k n1 → ∀ (H : Heap) (locs : List Loc), va_P (dC, dI) vwCl [(aR, .inr (2, [.ref aX, .ref aY, .ref aZ, .ref aK, .ref aF, .ref aE, .ref aL, .int od, .int wd])), (aX, .inr (0, [.int wX, .int sX, .int tX, .ref rX, .ref kX])), (aY, .inr (0, [.int wY, .int sY, .int tY, .ref rY, .ref kY])), (aZ, .inr (0, [.int wZ, .int sZ, .int tZ, .ref rZ, .ref kZ])), (rX, .inl (cL, 81, .inr (.inl OX))), (rY, .inl (cL, 81, .inr (.inl OY))), (rZ, .inl (cL, 81, .inr (.inl OZ))), (kX, .inl (cI, 81, .inl (j_rk OX gX 81))), (kY, .inl (cI, 81, .inl (j_rk OY gY 81))), (kZ, .inl (cI, 81, .inl (j_rk OZ gZ 81))), (aF, .inr (1, [.ref aH, .int (nI n1)])), (aH, .inl (cL, 1001, .inr (.inl f1))), (aE, .inl (cL, 500, .inr (.inl E1)))] H → va_D A [(aR, .inr (2, [.ref aX, .ref aY, .ref aZ, .ref aK, .ref aF, .ref aE, .ref aL, .int od, .int wd])), (aX, .inr (0, [.int wX, .int sX, .int tX, .ref rX, .ref kX])), (aY, .inr (0, [.int wY, .int sY, .int tY, .ref rY, .ref kY])), (aZ, .inr (0, [.int wZ, .int sZ, .int tZ, .ref rZ, .ref kZ])), (rX, .inl (cL, 81, .inr (.inl OX))), (rY, .inl (cL, 81, .inr (.inl OY))), (rZ, .inl (cL, 81, .inr (.inl OZ))), (kX, .inl (cI, 81, .inl (j_rk OX gX 81))), (kY, .inl (cI, 81, .inl (j_rk OY gY 81))), (kZ, .inl (cI, 81, .inl (j_rk OZ gZ 81))), (aF, .inr (1, [.ref aH, .int (nI n1)])), (aH, .inl (cL, 1001, .inr (.inl f1))), (aE, .inl (cL, 500, .inr (.inl E1)))] → va_S A s.heap H locs → ∀ (ls : Array Slot), lv_has ls 4 [(1, .int (nI k)), (0, .ref aR)] → W p l e (headSpec w_R_orderEchoes ({ frames := 4, cells := 0, slots := 0, locals := 98 })).room s m ([.ref aR] : List Value).toArray below meth c H locs 0 0 (MQ below (va_Qv (fun (u : (Nat → Int64) × (Nat → Int64) × (Nat → Int64) × (Nat → Int32) × (Nat → Int32) × (Nat → Int32) × (Nat) × (Nat → Int64) × (Nat → Int64)) => ES wX sX tX wY sY tY wZ sZ tZ u.2.2.2.2.2.2.2.2 ∧ (od = 1 → u.2.2.2.2.2.2.2.2 = E0)) (fun u t => va_P (dC, dI) vwCl [(aR, .inr (2, [.ref aX, .ref aY, .ref aZ, .ref aK, .ref aF, .ref aE, .ref aL, .int 1, .int wd])), (aX, .inr (0, [.int wX, .int sX, .int tX, .ref rX, .ref kX])), (aY, .inr (0, [.int wY, .int sY, .int tY, .ref rY, .ref kY])), (aZ, .inr (0, [.int wZ, .int sZ, .int tZ, .ref rZ, .ref kZ])), (rX, .inl (cL, 81, .inr (.inl u.1))), (rY, .inl (cL, 81, .inr (.inl u.2.1))), (rZ, .inl (cL, 81, .inr (.inl u.2.2.1))), (kX, .inl (cI, 81, .inl u.2.2.2.1)), (kY, .inl (cI, 81, .inl u.2.2.2.2.1)), (kZ, .inl (cI, 81, .inl u.2.2.2.2.2.1)), (aF, .inr (1, [.ref aH, .int (nI u.2.2.2.2.2.2.1)])), (aH, .inl (cL, 1001, .inr (.inl u.2.2.2.2.2.2.2.1))), (aE, .inl (cL, 500, .inr (.inl u.2.2.2.2.2.2.2.2)))] t.heap ∧ va_D A [(aR, .inr (2, [.ref aX, .ref aY, .ref aZ, .ref aK, .ref aF, .ref aE, .ref aL, .int 1, .int wd])), (aX, .inr (0, [.int wX, .int sX, .int tX, .ref rX, .ref kX])), (aY, .inr (0, [.int wY, .int sY, .int tY, .ref rY, .ref kY])), (aZ, .inr (0, [.int wZ, .int sZ, .int tZ, .ref rZ, .ref kZ])), (rX, .inl (cL, 81, .inr (.inl u.1))), (rY, .inl (cL, 81, .inr (.inl u.2.1))), (rZ, .inl (cL, 81, .inr (.inl u.2.2.1))), (kX, .inl (cI, 81, .inl u.2.2.2.1)), (kY, .inl (cI, 81, .inl u.2.2.2.2.1)), (kZ, .inl (cI, 81, .inl u.2.2.2.2.2.1)), (aF, .inr (1, [.ref aH, .int (nI u.2.2.2.2.2.2.1)])), (aH, .inl (cL, 1001, .inr (.inl u.2.2.2.2.2.2.2.1))), (aE, .inl (cL, 500, .inr (.inl u.2.2.2.2.2.2.2.2)))]) A) ([.ref aR] : List Value).toArray s 0 0 A) (F0 m 45 ls []) := by
      intro n9
      induction n9 with
      | zero => intro k E1 f1 n1 hn hk hq hF H locs hP hD hS ls hl; omega
      | succ n9 ih =>
        intro k E1 f1 n1 hn hk hq hF H locs hP hD hS ls hl
        refine lv_iload_n hx hb d_R_orderEchoes_45 rfl (lv_at hl 0 rfl) ?_
        refine lv_sipush (v := 500) hx hb d_R_orderEchoes_46 (by decide) ?_
        refine lv_icmp_ge (tgt := 78) hx hb d_R_orderEchoes_49 (by decide) (fun c_49 => ?_) (fun c_49 => ?_)
        · skip
          refine lv_aload_n hx hb d_R_orderEchoes_78 rfl (lv_at hl 1 rfl) ?_
          refine lv_iconst (v := 1) hx hb d_R_orderEchoes_79 (by decide) ?_
          refine va_put (D := (dC, dI)) (ci := 2) (v := .int 1) (ty := .boolean) (C := "RoomEchoes") (T := FT_R) (N := 9) hx hb hts (hi_ in_R) ty_R tyo_R nm_R hown hK hP hD hS 0 rfl rfl 7 (by decide) (ht_ hts mw103) (fun _ h9 => h9) rfl (by decide +kernel) rfl rfl (Nat.le_of_ble_eq_true rfl) d_R_orderEchoes_80 (fun H locs hP hD hS => ?_)
          have hP : va_P (dC, dI) vwCl [(aR, .inr (2, [.ref aX, .ref aY, .ref aZ, .ref aK, .ref aF, .ref aE, .ref aL, .int 1, .int wd])), (aX, .inr (0, [.int wX, .int sX, .int tX, .ref rX, .ref kX])), (aY, .inr (0, [.int wY, .int sY, .int tY, .ref rY, .ref kY])), (aZ, .inr (0, [.int wZ, .int sZ, .int tZ, .ref rZ, .ref kZ])), (rX, .inl (cL, 81, .inr (.inl OX))), (rY, .inl (cL, 81, .inr (.inl OY))), (rZ, .inl (cL, 81, .inr (.inl OZ))), (kX, .inl (cI, 81, .inl (j_rk OX gX 81))), (kY, .inl (cI, 81, .inl (j_rk OY gY 81))), (kZ, .inl (cI, 81, .inl (j_rk OZ gZ 81))), (aF, .inr (1, [.ref aH, .int (nI n1)])), (aH, .inl (cL, 1001, .inr (.inl f1))), (aE, .inl (cL, 500, .inr (.inl E1)))] H := hP
          have hD : va_D A [(aR, .inr (2, [.ref aX, .ref aY, .ref aZ, .ref aK, .ref aF, .ref aE, .ref aL, .int 1, .int wd])), (aX, .inr (0, [.int wX, .int sX, .int tX, .ref rX, .ref kX])), (aY, .inr (0, [.int wY, .int sY, .int tY, .ref rY, .ref kY])), (aZ, .inr (0, [.int wZ, .int sZ, .int tZ, .ref rZ, .ref kZ])), (rX, .inl (cL, 81, .inr (.inl OX))), (rY, .inl (cL, 81, .inr (.inl OY))), (rZ, .inl (cL, 81, .inr (.inl OZ))), (kX, .inl (cI, 81, .inl (j_rk OX gX 81))), (kY, .inl (cI, 81, .inl (j_rk OY gY 81))), (kZ, .inl (cI, 81, .inl (j_rk OZ gZ 81))), (aF, .inr (1, [.ref aH, .int (nI n1)])), (aH, .inl (cL, 1001, .inr (.inl f1))), (aE, .inl (cL, 500, .inr (.inl E1)))] := hD
          have k5 : k = 500 := by have : 500 ≤ k := nu_end (x := 500) (by omega) c_49; omega
          rw [k5] at hF
          have hP9 : va_P (dC, dI) vwCl [(aR, .inr (2, [.ref aX, .ref aY, .ref aZ, .ref aK, .ref aF, .ref aE, .ref aL, .int 1, .int wd])), (aX, .inr (0, [.int wX, .int sX, .int tX, .ref rX, .ref kX])), (aY, .inr (0, [.int wY, .int sY, .int tY, .ref rY, .ref kY])), (aZ, .inr (0, [.int wZ, .int sZ, .int tZ, .ref rZ, .ref kZ])), (rX, .inl (cL, 81, .inr (.inl OX))), (rY, .inl (cL, 81, .inr (.inl OY))), (rZ, .inl (cL, 81, .inr (.inl OZ))), (kX, .inl (cI, 81, .inl (j_rk OX gX 81))), (kY, .inl (cI, 81, .inl (j_rk OY gY 81))), (kZ, .inl (cI, 81, .inl (j_rk OZ gZ 81))), (aF, .inr (1, [.ref aH, .int (nI n1)])), (aH, .inl (cL, 1001, .inr (.inl f1))), (aE, .inl (cL, 500, .inr (.inl E1)))] _ := hP
          have hD9 : va_D A [(aR, .inr (2, [.ref aX, .ref aY, .ref aZ, .ref aK, .ref aF, .ref aE, .ref aL, .int 1, .int wd])), (aX, .inr (0, [.int wX, .int sX, .int tX, .ref rX, .ref kX])), (aY, .inr (0, [.int wY, .int sY, .int tY, .ref rY, .ref kY])), (aZ, .inr (0, [.int wZ, .int sZ, .int tZ, .ref rZ, .ref kZ])), (rX, .inl (cL, 81, .inr (.inl OX))), (rY, .inl (cL, 81, .inr (.inl OY))), (rZ, .inl (cL, 81, .inr (.inl OZ))), (kX, .inl (cI, 81, .inl (j_rk OX gX 81))), (kY, .inl (cI, 81, .inl (j_rk OY gY 81))), (kZ, .inl (cI, 81, .inl (j_rk OZ gZ 81))), (aF, .inr (1, [.ref aH, .int (nI n1)])), (aH, .inl (cL, 1001, .inr (.inl f1))), (aE, .inl (cL, 500, .inr (.inl E1)))] := hD
          exact W.vret hx hb hr (fun t ht hW => ⟨⟨(OX, OY, OZ, j_rk OX gX 81, j_rk OY gY 81, j_rk OZ gZ 81, n1, f1, E1), rfl, ⟨ES_of hOX hOY hOZ hF, fun h9 => absurd (h9.symm.trans c_4) (by decide)⟩, by rw [ht]; exact hP9, hD9⟩, hS.F ht⟩) hS.2.2 d_R_orderEchoes_83
        · skip
          have k5 : k < 500 := nu_on (x := 500) (by omega) c_49
          obtain ⟨n2, i, j, m9, en, hn2, hi, hj, hm, hv, r1, r2, r3⟩ := oe_head hOX hOY hOZ hF k5 gX gY gZ
          subst en
          refine lv_aload_n hx hb d_R_orderEchoes_52 rfl (lv_at hl 1 rfl) ?_
          refine va_get (D := (dC, dI)) (ci := 2) (v := .ref aF) (C := "RoomEchoes") (T := FT_R) (N := 9) hx hb hts (hi_ in_R) hown hK hP 0 rfl rfl 4 (by decide) (ht_ hts mw100) (fun _ h9 => h9) rfl d_R_orderEchoes_53 ?_
          have hPc := hP.sub (ws' := [(aF, .inr (1, [.ref aH, .int (nI (n2 + 1))])), (aH, .inl (cL, 1001, .inr (.inl f1)))]) [10, 11] rfl
          have hDc := hD.sub (ws' := [(aF, .inr (1, [.ref aH, .int (nI (n2 + 1))])), (aH, .inl (cL, 1001, .inr (.inl f1)))]) [10, 11] (by decide) rfl
          refine wr_cl (wr := [(aR, .inr (2, [.ref aX, .ref aY, .ref aZ, .ref aK, .ref aF, .ref aE, .ref aL, .int od, .int wd])), (aX, .inr (0, [.int wX, .int sX, .int tX, .ref rX, .ref kX])), (aY, .inr (0, [.int wY, .int sY, .int tY, .ref rY, .ref kY])), (aZ, .inr (0, [.int wZ, .int sZ, .int tZ, .ref rZ, .ref kZ])), (rX, .inl (cL, 81, .inr (.inl OX))), (rY, .inl (cL, 81, .inr (.inl OY))), (rZ, .inl (cL, 81, .inr (.inl OZ))), (kX, .inl (cI, 81, .inl (j_rk OX gX 81))), (kY, .inl (cI, 81, .inl (j_rk OY gY 81))), (kZ, .inl (cI, 81, .inl (j_rk OZ gZ 81))), (aE, .inl (cL, 500, .inr (.inl E1)))]) (w1 := [(aF, .inr (1, [.ref aH, .int (nI n2)])), (aH, .inl (cL, 1001, .inr (.inl (pu_dn (f1 n2) n2 (n2 + 1) 0 f1))))]) hP hD hS hA [10, 11] [0, 1, 2, 3, 4, 5, 6, 7, 8, 9, 12] rfl rfl (by decide) (by decide) (va_runV (As := []) (rest := []) ⟨hx, hb, hml, hown, hts⟩ (c_F_take l dC dI cI cL aF aH n2 f1 _ (by omega)) (cwV 0 hts (gi_V mw330 mw327 mw328 mw329 mw31) rfl rfl rfl (by decide +kernel) ⟨Nat.le_of_ble_eq_true rfl, Nat.le_of_ble_eq_true rfl⟩) (wr_V hM hPc hDc rfl rfl rfl) rfl rfl hl.1 rfl (lv_room (Nat.le_of_ble_eq_true rfl)) d_R_orderEchoes_56 ⟨Nat.le_of_ble_eq_true rfl, Nat.le_of_ble_eq_true rfl⟩) (fun H locs hP hD hS => ?_)
          have hP := hP.sub (ws' := [(aR, .inr (2, [.ref aX, .ref aY, .ref aZ, .ref aK, .ref aF, .ref aE, .ref aL, .int od, .int wd])), (aX, .inr (0, [.int wX, .int sX, .int tX, .ref rX, .ref kX])), (aY, .inr (0, [.int wY, .int sY, .int tY, .ref rY, .ref kY])), (aZ, .inr (0, [.int wZ, .int sZ, .int tZ, .ref rZ, .ref kZ])), (rX, .inl (cL, 81, .inr (.inl OX))), (rY, .inl (cL, 81, .inr (.inl OY))), (rZ, .inl (cL, 81, .inr (.inl OZ))), (kX, .inl (cI, 81, .inl (j_rk OX gX 81))), (kY, .inl (cI, 81, .inl (j_rk OY gY 81))), (kZ, .inl (cI, 81, .inl (j_rk OZ gZ 81))), (aF, .inr (1, [.ref aH, .int (nI n2)])), (aH, .inl (cL, 1001, .inr (.inl (pu_dn (f1 n2) n2 (n2 + 1) 0 f1)))), (aE, .inl (cL, 500, .inr (.inl E1)))]) [0, 1, 2, 3, 4, 5, 6, 7, 8, 9, 11, 12, 10] rfl
          have hD := hD.sub (ws' := [(aR, .inr (2, [.ref aX, .ref aY, .ref aZ, .ref aK, .ref aF, .ref aE, .ref aL, .int od, .int wd])), (aX, .inr (0, [.int wX, .int sX, .int tX, .ref rX, .ref kX])), (aY, .inr (0, [.int wY, .int sY, .int tY, .ref rY, .ref kY])), (aZ, .inr (0, [.int wZ, .int sZ, .int tZ, .ref rZ, .ref kZ])), (rX, .inl (cL, 81, .inr (.inl OX))), (rY, .inl (cL, 81, .inr (.inl OY))), (rZ, .inl (cL, 81, .inr (.inl OZ))), (kX, .inl (cI, 81, .inl (j_rk OX gX 81))), (kY, .inl (cI, 81, .inl (j_rk OY gY 81))), (kZ, .inl (cI, 81, .inl (j_rk OZ gZ 81))), (aF, .inr (1, [.ref aH, .int (nI n2)])), (aH, .inl (cL, 1001, .inr (.inl (pu_dn (f1 n2) n2 (n2 + 1) 0 f1)))), (aE, .inl (cL, 500, .inr (.inl E1)))]) [0, 1, 2, 3, 4, 5, 6, 7, 8, 9, 11, 12, 10] (by decide) rfl
          refine lv_lstore_n (lv' := [(2, .long (f1 0)), (1, .int (nI k)), (0, .ref aR)]) hx hb d_R_orderEchoes_59 rfl hl (by decide) rfl (fun ls hl => ?_)
          refine lv_aload_n hx hb d_R_orderEchoes_60 rfl (lv_at hl 2 rfl) ?_
          refine va_get (D := (dC, dI)) (ci := 2) (v := .ref aE) (C := "RoomEchoes") (T := FT_R) (N := 9) hx hb hts (hi_ in_R) hown hK hP 0 rfl rfl 5 (by decide) (ht_ hts mw101) (fun _ h9 => h9) rfl d_R_orderEchoes_61 ?_
          refine lv_iload_n hx hb d_R_orderEchoes_64 rfl (lv_at hl 1 rfl) ?_
          refine lv_lload_n hx hb d_R_orderEchoes_65 rfl (lv_at hl 0 rfl) ?_
          refine va_last hx hb hK hP hD hS 12 1 rfl rfl (vp_in_nI (by omega) (by omega)) d_R_orderEchoes_66 (fun H locs hP hD hS => ?_)
          rw [nI_clamp (n := k) (by omega)] at hP hD
          have hP : va_P (dC, dI) vwCl [(aR, .inr (2, [.ref aX, .ref aY, .ref aZ, .ref aK, .ref aF, .ref aE, .ref aL, .int od, .int wd])), (aX, .inr (0, [.int wX, .int sX, .int tX, .ref rX, .ref kX])), (aY, .inr (0, [.int wY, .int sY, .int tY, .ref rY, .ref kY])), (aZ, .inr (0, [.int wZ, .int sZ, .int tZ, .ref rZ, .ref kZ])), (rX, .inl (cL, 81, .inr (.inl OX))), (rY, .inl (cL, 81, .inr (.inl OY))), (rZ, .inl (cL, 81, .inr (.inl OZ))), (kX, .inl (cI, 81, .inl (j_rk OX gX 81))), (kY, .inl (cI, 81, .inl (j_rk OY gY 81))), (kZ, .inl (cI, 81, .inl (j_rk OZ gZ 81))), (aF, .inr (1, [.ref aH, .int (nI n2)])), (aH, .inl (cL, 1001, .inr (.inl (pu_dn (f1 n2) n2 (n2 + 1) 0 f1)))), (aE, .inl (cL, 500, .inr (.inl (vp_updL E1 k (f1 0)))))] H := hP
          have hD : va_D A [(aR, .inr (2, [.ref aX, .ref aY, .ref aZ, .ref aK, .ref aF, .ref aE, .ref aL, .int od, .int wd])), (aX, .inr (0, [.int wX, .int sX, .int tX, .ref rX, .ref kX])), (aY, .inr (0, [.int wY, .int sY, .int tY, .ref rY, .ref kY])), (aZ, .inr (0, [.int wZ, .int sZ, .int tZ, .ref rZ, .ref kZ])), (rX, .inl (cL, 81, .inr (.inl OX))), (rY, .inl (cL, 81, .inr (.inl OY))), (rZ, .inl (cL, 81, .inr (.inl OZ))), (kX, .inl (cI, 81, .inl (j_rk OX gX 81))), (kY, .inl (cI, 81, .inl (j_rk OY gY 81))), (kZ, .inl (cI, 81, .inl (j_rk OZ gZ 81))), (aF, .inr (1, [.ref aH, .int (nI n2)])), (aH, .inl (cL, 1001, .inr (.inl (pu_dn (f1 n2) n2 (n2 + 1) 0 f1)))), (aE, .inl (cL, 500, .inr (.inl (vp_updL E1 k (f1 0)))))] := hD
          refine lv_aload_n hx hb d_R_orderEchoes_67 rfl (lv_at hl 2 rfl) ?_
          refine lv_lload_n hx hb d_R_orderEchoes_68 rfl (lv_at hl 0 rfl) ?_
          have hPc := hP.sub (ws' := [(aR, .inr (2, [.ref aX, .ref aY, .ref aZ, .ref aK, .ref aF, .ref aE, .ref aL, .int od, .int wd])), (aX, .inr (0, [.int wX, .int sX, .int tX, .ref rX, .ref kX])), (aY, .inr (0, [.int wY, .int sY, .int tY, .ref rY, .ref kY])), (aZ, .inr (0, [.int wZ, .int sZ, .int tZ, .ref rZ, .ref kZ])), (rX, .inl (cL, 81, .inr (.inl OX))), (rY, .inl (cL, 81, .inr (.inl OY))), (rZ, .inl (cL, 81, .inr (.inl OZ))), (kX, .inl (cI, 81, .inl (j_rk OX gX 81))), (kY, .inl (cI, 81, .inl (j_rk OY gY 81))), (kZ, .inl (cI, 81, .inl (j_rk OZ gZ 81))), (aF, .inr (1, [.ref aH, .int (nI n2)])), (aH, .inl (cL, 1001, .inr (.inl (pu_dn (f1 n2) n2 (n2 + 1) 0 f1))))]) [0, 1, 2, 3, 4, 5, 6, 7, 8, 9, 10, 11] rfl
          have hDc := hD.sub (ws' := [(aR, .inr (2, [.ref aX, .ref aY, .ref aZ, .ref aK, .ref aF, .ref aE, .ref aL, .int od, .int wd])), (aX, .inr (0, [.int wX, .int sX, .int tX, .ref rX, .ref kX])), (aY, .inr (0, [.int wY, .int sY, .int tY, .ref rY, .ref kY])), (aZ, .inr (0, [.int wZ, .int sZ, .int tZ, .ref rZ, .ref kZ])), (rX, .inl (cL, 81, .inr (.inl OX))), (rY, .inl (cL, 81, .inr (.inl OY))), (rZ, .inl (cL, 81, .inr (.inl OZ))), (kX, .inl (cI, 81, .inl (j_rk OX gX 81))), (kY, .inl (cI, 81, .inl (j_rk OY gY 81))), (kZ, .inl (cI, 81, .inl (j_rk OZ gZ 81))), (aF, .inr (1, [.ref aH, .int (nI n2)])), (aH, .inl (cL, 1001, .inr (.inl (pu_dn (f1 n2) n2 (n2 + 1) 0 f1))))]) [0, 1, 2, 3, 4, 5, 6, 7, 8, 9, 10, 11] (by decide) rfl
          refine wr_cv (wr := [(aE, .inl (cL, 500, .inr (.inl (vp_updL E1 k (f1 0)))))]) (w1 := [(aR, .inr (2, [.ref aX, .ref aY, .ref aZ, .ref aK, .ref aF, .ref aE, .ref aL, .int od, .int wd])), (aX, .inr (0, [.int wX, .int sX, .int tX, .ref rX, .ref kX])), (aY, .inr (0, [.int wY, .int sY, .int tY, .ref rY, .ref kY])), (aZ, .inr (0, [.int wZ, .int sZ, .int tZ, .ref rZ, .ref kZ])), (rX, .inl (cL, 81, .inr (.inl OX))), (rY, .inl (cL, 81, .inr (.inl OY))), (rZ, .inl (cL, 81, .inr (.inl OZ))), (kX, .inl (cI, 81, .inl (j_rk OX gX 81))), (kY, .inl (cI, 81, .inl (j_rk OY gY 81))), (kZ, .inl (cI, 81, .inl (j_rk OZ gZ 81))), (aF, .inr (1, [.ref aH, .int (nI (fo_n i j m9 n2))])), (aH, .inl (cL, 1001, .inr (.inl (fo_f OX OY OZ i j m9 n2 (pu_dn (f1 n2) n2 (n2 + 1) 0 f1)))))]) hP hD hS hA [0, 1, 2, 3, 4, 5, 6, 7, 8, 9, 10, 11] [12] rfl rfl (by decide) (by decide) (va_runV (As := [.long (f1 0)]) (rest := []) ⟨hx, hb, hml, hown, hts⟩ (c_R_addFollowers l dC dI cI cL aR aX aY aZ aK aF aE aL od wd wX sX tX rX kX wY sY tY rY kY wZ sZ tZ rZ kZ OX OY OZ (j_rk OX gX 81) (j_rk OY gY 81) (j_rk OZ gZ 81) aH n2 (pu_dn (f1 n2) n2 (n2 + 1) 0 f1) (f1 0) i j m9 _ r1 r2 r3 hi hj hm (by omega)) (cwV 1 hts (gi_V mw342 mw339 mw341 mw11 mw30) rfl rfl rfl (by decide +kernel) ⟨Nat.le_of_ble_eq_true rfl, Nat.le_of_ble_eq_true rfl⟩) (wr_V hM hPc hDc rfl rfl rfl) rfl rfl hl.1 rfl (lv_room (Nat.le_of_ble_eq_true rfl)) d_R_orderEchoes_69 ⟨Nat.le_of_ble_eq_true rfl, Nat.le_of_ble_eq_true rfl⟩) (fun H locs hP hD hS => ?_)
          have hP := hP.sub (ws' := [(aR, .inr (2, [.ref aX, .ref aY, .ref aZ, .ref aK, .ref aF, .ref aE, .ref aL, .int od, .int wd])), (aX, .inr (0, [.int wX, .int sX, .int tX, .ref rX, .ref kX])), (aY, .inr (0, [.int wY, .int sY, .int tY, .ref rY, .ref kY])), (aZ, .inr (0, [.int wZ, .int sZ, .int tZ, .ref rZ, .ref kZ])), (rX, .inl (cL, 81, .inr (.inl OX))), (rY, .inl (cL, 81, .inr (.inl OY))), (rZ, .inl (cL, 81, .inr (.inl OZ))), (kX, .inl (cI, 81, .inl (j_rk OX gX 81))), (kY, .inl (cI, 81, .inl (j_rk OY gY 81))), (kZ, .inl (cI, 81, .inl (j_rk OZ gZ 81))), (aF, .inr (1, [.ref aH, .int (nI (fo_n i j m9 n2))])), (aH, .inl (cL, 1001, .inr (.inl (fo_f OX OY OZ i j m9 n2 (pu_dn (f1 n2) n2 (n2 + 1) 0 f1))))), (aE, .inl (cL, 500, .inr (.inl (vp_updL E1 k (f1 0)))))]) [1, 2, 3, 4, 5, 6, 7, 8, 9, 10, 11, 12, 0] rfl
          have hD := hD.sub (ws' := [(aR, .inr (2, [.ref aX, .ref aY, .ref aZ, .ref aK, .ref aF, .ref aE, .ref aL, .int od, .int wd])), (aX, .inr (0, [.int wX, .int sX, .int tX, .ref rX, .ref kX])), (aY, .inr (0, [.int wY, .int sY, .int tY, .ref rY, .ref kY])), (aZ, .inr (0, [.int wZ, .int sZ, .int tZ, .ref rZ, .ref kZ])), (rX, .inl (cL, 81, .inr (.inl OX))), (rY, .inl (cL, 81, .inr (.inl OY))), (rZ, .inl (cL, 81, .inr (.inl OZ))), (kX, .inl (cI, 81, .inl (j_rk OX gX 81))), (kY, .inl (cI, 81, .inl (j_rk OY gY 81))), (kZ, .inl (cI, 81, .inl (j_rk OZ gZ 81))), (aF, .inr (1, [.ref aH, .int (nI (fo_n i j m9 n2))])), (aH, .inl (cL, 1001, .inr (.inl (fo_f OX OY OZ i j m9 n2 (pu_dn (f1 n2) n2 (n2 + 1) 0 f1))))), (aE, .inl (cL, 500, .inr (.inl (vp_updL E1 k (f1 0)))))]) [1, 2, 3, 4, 5, 6, 7, 8, 9, 10, 11, 12, 0] (by decide) rfl
          refine lv_iinc (v := nI (k + 1)) (lv' := [(1, .int (nI (k + 1))), (2, .long (f1 0)), (0, .ref aR)]) hx hb d_R_orderEchoes_72 hl (k := 1) rfl (nI_succ _).symm (by decide) rfl (fun ls hl => ?_)
          refine lv_goto (tgt := 45) hx hb d_R_orderEchoes_75 (by decide) ?_
          exact ih (k + 1) _ _ _ (by omega) (by omega) (oe_next hq hi hj hm r1 r2 r3) (oe_step (adk_KK hOX hOY hOZ) hF hi hj hm hv) _ _ hP hD hS ls (lv_sub hl [0, 2] rfl)
    exact lp 501 0 E0 _ _ (by omega) (by omega) rfl (oe_zero E0 f) _ _ hP hD hS ls (lv_sub hl [0, 1] rfl)
  · skip
    have o1 : od = 1 ∧ ES wX sX tX wY sY tY wZ sZ tZ E0 := ho.resolve_left c_4
    rw [o1.1] at hP hD
    have hP9 : va_P (dC, dI) vwCl [(aR, .inr (2, [.ref aX, .ref aY, .ref aZ, .ref aK, .ref aF, .ref aE, .ref aL, .int 1, .int wd])), (aX, .inr (0, [.int wX, .int sX, .int tX, .ref rX, .ref kX])), (aY, .inr (0, [.int wY, .int sY, .int tY, .ref rY, .ref kY])), (aZ, .inr (0, [.int wZ, .int sZ, .int tZ, .ref rZ, .ref kZ])), (rX, .inl (cL, 81, .inr (.inl fX))), (rY, .inl (cL, 81, .inr (.inl fY))), (rZ, .inl (cL, 81, .inr (.inl fZ))), (kX, .inl (cI, 81, .inl gX)), (kY, .inl (cI, 81, .inl gY)), (kZ, .inl (cI, 81, .inl gZ)), (aF, .inr (1, [.ref aH, .int (nI n)])), (aH, .inl (cL, 1001, .inr (.inl f))), (aE, .inl (cL, 500, .inr (.inl E0)))] _ := hP
    have hD9 : va_D A [(aR, .inr (2, [.ref aX, .ref aY, .ref aZ, .ref aK, .ref aF, .ref aE, .ref aL, .int 1, .int wd])), (aX, .inr (0, [.int wX, .int sX, .int tX, .ref rX, .ref kX])), (aY, .inr (0, [.int wY, .int sY, .int tY, .ref rY, .ref kY])), (aZ, .inr (0, [.int wZ, .int sZ, .int tZ, .ref rZ, .ref kZ])), (rX, .inl (cL, 81, .inr (.inl fX))), (rY, .inl (cL, 81, .inr (.inl fY))), (rZ, .inl (cL, 81, .inr (.inl fZ))), (kX, .inl (cI, 81, .inl gX)), (kY, .inl (cI, 81, .inl gY)), (kZ, .inl (cI, 81, .inl gZ)), (aF, .inr (1, [.ref aH, .int (nI n)])), (aH, .inl (cL, 1001, .inr (.inl f))), (aE, .inl (cL, 500, .inr (.inl E0)))] := hD
    exact W.vret hx hb hr (fun t ht hW => ⟨⟨(fX, fY, fZ, gX, gY, gZ, n, f, E0), rfl, ⟨o1.2, fun _ => rfl⟩, by rw [ht]; exact hP9, hD9⟩, hS.F ht⟩) hS.2.2 d_R_orderEchoes_7
end
section
theorem wg_step {kp : Nat → Int32} {E g : Nat → Int64} {k : Nat} {v : Int64} (h : ∀ j, j < k → g j = lou kp E j) (hv : v = lou kp E k) : ∀ j, j < k + 1 → vp_updL g k v j = lou kp E j := by
  intro j hj
  unfold vp_updL
  by_cases q : j = k
  · subst q; rw [if_pos rfl]; exact hv
  · rw [if_neg q]; exact h j (by omega)

set_option maxHeartbeats 4000000 in
set_option maxRecDepth 100000 in
theorem c_R_weighEchoes (l : Launch) (dC : Nat → ClassId) (dI : Nat → Nat → Nat) (cI cL : ClassId) (aR : Nat) (aX : Nat) (aY : Nat) (aZ : Nat) (aK : Nat) (aF : Nat) (aE : Nat) (aL : Nat) (od : Int32) (wd : Int32) (wX : Int32) (sX : Int32) (tX : Int32) (rX : Nat) (kX : Nat) (wY : Int32) (sY : Int32) (tY : Int32) (rY : Nat) (kY : Nat) (wZ : Int32) (sZ : Int32) (tZ : Int32) (rZ : Nat) (kZ : Nat) (fX : Nat → Int64) (fY : Nat → Int64) (fZ : Nat → Int64) (gX : Nat → Int32) (gY : Nat → Int32) (gZ : Nat → Int32) (aH : Nat) (n : Nat) (f : Nat → Int64) (E0 : Nat → Int64) (kp : Nat → Int32) (G0 : Nat → Int64) (sz : Nat) (hI : RI wX sX tX wY sY tY wZ sZ tZ kp E0 G0 od wd) : Met l y_R_weighEchoes w_R_weighEchoes ({ frames := 5, cells := 0, slots := 0, locals := 121 }) (wr_P (dC, dI) cI cL [(aR, .inr (2, [.ref aX, .ref aY, .ref aZ, .ref aK, .ref aF, .ref aE, .ref aL, .int od, .int wd])), (aX, .inr (0, [.int wX, .int sX, .int tX, .ref rX, .ref kX])), (aY, .inr (0, [.int wY, .int sY, .int tY, .ref rY, .ref kY])), (aZ, .inr (0, [.int wZ, .int sZ, .int tZ, .ref rZ, .ref kZ])), (rX, .inl (cL, 81, .inr (.inl fX))), (rY, .inl (cL, 81, .inr (.inl fY))), (rZ, .inl (cL, 81, .inr (.inl fZ))), (kX, .inl (cI, 81, .inl gX)), (kY, .inl (cI, 81, .inl gY)), (kZ, .inl (cI, 81, .inl gZ)), (aF, .inr (1, [.ref aH, .int (nI n)])), (aH, .inl (cL, 1001, .inr (.inl f))), (aE, .inl (cL, 500, .inr (.inl E0))), (aK, .inl (cI, 6, .inl kp)), (aL, .inl (cL, 500, .inr (.inl G0)))] sz [.ref aR]) (va_Qv (fun (u : (Nat → Int64) × (Nat → Int64) × (Nat → Int64) × (Nat → Int32) × (Nat → Int32) × (Nat → Int32) × (Nat) × (Nat → Int64) × (Nat → Int64) × (Nat → Int64)) => RI wX sX tX wY sY tY wZ sZ tZ kp u.2.2.2.2.2.2.2.2.1 u.2.2.2.2.2.2.2.2.2 1 1) (fun u t => va_P (dC, dI) vwCl [(aR, .inr (2, [.ref aX, .ref aY, .ref aZ, .ref aK, .ref aF, .ref aE, .ref aL, .int 1, .int 1])), (aX, .inr (0, [.int wX, .int sX, .int tX, .ref rX, .ref kX])), (aY, .inr (0, [.int wY, .int sY, .int tY, .ref rY, .ref kY])), (aZ, .inr (0, [.int wZ, .int sZ, .int tZ, .ref rZ, .ref kZ])), (rX, .inl (cL, 81, .inr (.inl u.1))), (rY, .inl (cL, 81, .inr (.inl u.2.1))), (rZ, .inl (cL, 81, .inr (.inl u.2.2.1))), (kX, .inl (cI, 81, .inl u.2.2.2.1)), (kY, .inl (cI, 81, .inl u.2.2.2.2.1)), (kZ, .inl (cI, 81, .inl u.2.2.2.2.2.1)), (aF, .inr (1, [.ref aH, .int (nI u.2.2.2.2.2.2.1)])), (aH, .inl (cL, 1001, .inr (.inl u.2.2.2.2.2.2.2.1))), (aE, .inl (cL, 500, .inr (.inl u.2.2.2.2.2.2.2.2.1))), (aK, .inl (cI, 6, .inl kp)), (aL, .inl (cL, 500, .inr (.inl u.2.2.2.2.2.2.2.2.2)))] t.heap ∧ va_D (va_A [(aR, .inr (2, [.ref aX, .ref aY, .ref aZ, .ref aK, .ref aF, .ref aE, .ref aL, .int od, .int wd])), (aX, .inr (0, [.int wX, .int sX, .int tX, .ref rX, .ref kX])), (aY, .inr (0, [.int wY, .int sY, .int tY, .ref rY, .ref kY])), (aZ, .inr (0, [.int wZ, .int sZ, .int tZ, .ref rZ, .ref kZ])), (rX, .inl (cL, 81, .inr (.inl fX))), (rY, .inl (cL, 81, .inr (.inl fY))), (rZ, .inl (cL, 81, .inr (.inl fZ))), (kX, .inl (cI, 81, .inl gX)), (kY, .inl (cI, 81, .inl gY)), (kZ, .inl (cI, 81, .inl gZ)), (aF, .inr (1, [.ref aH, .int (nI n)])), (aH, .inl (cL, 1001, .inr (.inl f))), (aE, .inl (cL, 500, .inr (.inl E0))), (aK, .inl (cI, 6, .inl kp)), (aL, .inl (cL, 500, .inr (.inl G0)))] sz) [(aR, .inr (2, [.ref aX, .ref aY, .ref aZ, .ref aK, .ref aF, .ref aE, .ref aL, .int 1, .int 1])), (aX, .inr (0, [.int wX, .int sX, .int tX, .ref rX, .ref kX])), (aY, .inr (0, [.int wY, .int sY, .int tY, .ref rY, .ref kY])), (aZ, .inr (0, [.int wZ, .int sZ, .int tZ, .ref rZ, .ref kZ])), (rX, .inl (cL, 81, .inr (.inl u.1))), (rY, .inl (cL, 81, .inr (.inl u.2.1))), (rZ, .inl (cL, 81, .inr (.inl u.2.2.1))), (kX, .inl (cI, 81, .inl u.2.2.2.1)), (kY, .inl (cI, 81, .inl u.2.2.2.2.1)), (kZ, .inl (cI, 81, .inl u.2.2.2.2.2.1)), (aF, .inr (1, [.ref aH, .int (nI u.2.2.2.2.2.2.1)])), (aH, .inl (cL, 1001, .inr (.inl u.2.2.2.2.2.2.2.1))), (aE, .inl (cL, 500, .inr (.inl u.2.2.2.2.2.2.2.2.1))), (aK, .inl (cI, 6, .inl kp)), (aL, .inl (cL, 500, .inr (.inl u.2.2.2.2.2.2.2.2.2)))]) (va_A [(aR, .inr (2, [.ref aX, .ref aY, .ref aZ, .ref aK, .ref aF, .ref aE, .ref aL, .int od, .int wd])), (aX, .inr (0, [.int wX, .int sX, .int tX, .ref rX, .ref kX])), (aY, .inr (0, [.int wY, .int sY, .int tY, .ref rY, .ref kY])), (aZ, .inr (0, [.int wZ, .int sZ, .int tZ, .ref rZ, .ref kZ])), (rX, .inl (cL, 81, .inr (.inl fX))), (rY, .inl (cL, 81, .inr (.inl fY))), (rZ, .inl (cL, 81, .inr (.inl fZ))), (kX, .inl (cI, 81, .inl gX)), (kY, .inl (cI, 81, .inl gY)), (kZ, .inl (cI, 81, .inl gZ)), (aF, .inr (1, [.ref aH, .int (nI n)])), (aH, .inl (cL, 1001, .inr (.inl f))), (aE, .inl (cL, 500, .inr (.inl E0))), (aK, .inl (cI, 6, .inl kp)), (aL, .inl (cL, 500, .inr (.inl G0)))] sz)) 0 0 (va_A [(aR, .inr (2, [.ref aX, .ref aY, .ref aZ, .ref aK, .ref aF, .ref aE, .ref aL, .int od, .int wd])), (aX, .inr (0, [.int wX, .int sX, .int tX, .ref rX, .ref kX])), (aY, .inr (0, [.int wY, .int sY, .int tY, .ref rY, .ref kY])), (aZ, .inr (0, [.int wZ, .int sZ, .int tZ, .ref rZ, .ref kZ])), (rX, .inl (cL, 81, .inr (.inl fX))), (rY, .inl (cL, 81, .inr (.inl fY))), (rZ, .inl (cL, 81, .inr (.inl fZ))), (kX, .inl (cI, 81, .inl gX)), (kY, .inl (cI, 81, .inl gY)), (kZ, .inl (cI, 81, .inl gZ)), (aF, .inr (1, [.ref aH, .int (nI n)])), (aH, .inl (cL, 1001, .inr (.inl f))), (aE, .inl (cL, 500, .inr (.inl E0))), (aK, .inl (cI, 6, .inl kp)), (aL, .inl (cL, 500, .inr (.inl G0)))] sz) := by
  refine Met.ofW (cc := b_R_weighEchoes) (maxL := 6) (ret := none) (by decide) rfl ?_
  intro p e s m args below meth c s₁ B hml hv
  obtain ⟨rfl, hsz, hP, hM, hD0⟩ := hv
  have hx := B.exec
  have hb := B.bytes
  have hr := B.returns
  have hts := atoms_spec (ws := w_R_weighEchoes) B.pre
  have hown : s.vm.findClass "RoomEchoes" = some m.cls := findClass_of_methodNamed B.named
  have hlocks := B.notSynchronized
  have hK := hM.1
  subst hsz
  have hD := hD0.self (sz := s.heap.size)
  generalize hAe : va_A [(aR, .inr (2, [.ref aX, .ref aY, .ref aZ, .ref aK, .ref aF, .ref aE, .ref aL, .int od, .int wd])), (aX, .inr (0, [.int wX, .int sX, .int tX, .ref rX, .ref kX])), (aY, .inr (0, [.int wY, .int sY, .int tY, .ref rY, .ref kY])), (aZ, .inr (0, [.int wZ, .int sZ, .int tZ, .ref rZ, .ref kZ])), (rX, .inl (cL, 81, .inr (.inl fX))), (rY, .inl (cL, 81, .inr (.inl fY))), (rZ, .inl (cL, 81, .inr (.inl fZ))), (kX, .inl (cI, 81, .inl gX)), (kY, .inl (cI, 81, .inl gY)), (kZ, .inl (cI, 81, .inl gZ)), (aF, .inr (1, [.ref aH, .int (nI n)])), (aH, .inl (cL, 1001, .inr (.inl f))), (aE, .inl (cL, 500, .inr (.inl E0))), (aK, .inl (cI, 6, .inl kp)), (aL, .inl (cL, 500, .inr (.inl G0)))] s.heap.size = A at hD ⊢
  have hA : ∀ q : Nat, s.heap.size ≤ q → A q := fun q h => by rw [← hAe]; exact Or.inr h
  have hS : va_S A s.heap s.heap [] := va_S.rf
  have hP : va_P (dC, dI) vwCl [(aR, .inr (2, [.ref aX, .ref aY, .ref aZ, .ref aK, .ref aF, .ref aE, .ref aL, .int od, .int wd])), (aX, .inr (0, [.int wX, .int sX, .int tX, .ref rX, .ref kX])), (aY, .inr (0, [.int wY, .int sY, .int tY, .ref rY, .ref kY])), (aZ, .inr (0, [.int wZ, .int sZ, .int tZ, .ref rZ, .ref kZ])), (rX, .inl (cL, 81, .inr (.inl fX))), (rY, .inl (cL, 81, .inr (.inl fY))), (rZ, .inl (cL, 81, .inr (.inl fZ))), (kX, .inl (cI, 81, .inl gX)), (kY, .inl (cI, 81, .inl gY)), (kZ, .inl (cI, 81, .inl gZ)), (aF, .inr (1, [.ref aH, .int (nI n)])), (aH, .inl (cL, 1001, .inr (.inl f))), (aE, .inl (cL, 500, .inr (.inl E0))), (aK, .inl (cI, 6, .inl kp)), (aL, .inl (cL, 500, .inr (.inl G0)))] s.heap := hP
  have hl := lv_entry ([.ref aR]) (n := 6) (Nat.le_of_ble_eq_true rfl)
  rw [lg_entry_eq]
  generalize (lg_sl ([.ref aR]) ++ List.replicate (6 - (lg_sl ([.ref aR])).length) Slot.unset).toArray = ls at hl ⊢
  have hl : lv_has ls 6 [(0, .ref aR)] := hl
  refine lv_aload_n hx hb d_R_weighEchoes_0 rfl (lv_at hl 0 rfl) ?_
  have hPc := hP.sub (ws' := [(aR, .inr (2, [.ref aX, .ref aY, .ref aZ, .ref aK, .ref aF, .ref aE, .ref aL, .int od, .int wd])), (aX, .inr (0, [.int wX, .int sX, .int tX, .ref rX, .ref kX])), (aY, .inr (0, [.int wY, .int sY, .int tY, .ref rY, .ref kY])), (aZ, .inr (0, [.int wZ, .int sZ, .int tZ, .ref rZ, .ref kZ])), (rX, .inl (cL, 81, .inr (.inl fX))), (rY, .inl (cL, 81, .inr (.inl fY))), (rZ, .inl (cL, 81, .inr (.inl fZ))), (kX, .inl (cI, 81, .inl gX)), (kY, .inl (cI, 81, .inl gY)), (kZ, .inl (cI, 81, .inl gZ)), (aF, .inr (1, [.ref aH, .int (nI n)])), (aH, .inl (cL, 1001, .inr (.inl f))), (aE, .inl (cL, 500, .inr (.inl E0)))]) [0, 1, 2, 3, 4, 5, 6, 7, 8, 9, 10, 11, 12] rfl
  have hDc := hD.sub (ws' := [(aR, .inr (2, [.ref aX, .ref aY, .ref aZ, .ref aK, .ref aF, .ref aE, .ref aL, .int od, .int wd])), (aX, .inr (0, [.int wX, .int sX, .int tX, .ref rX, .ref kX])), (aY, .inr (0, [.int wY, .int sY, .int tY, .ref rY, .ref kY])), (aZ, .inr (0, [.int wZ, .int sZ, .int tZ, .ref rZ, .ref kZ])), (rX, .inl (cL, 81, .inr (.inl fX))), (rY, .inl (cL, 81, .inr (.inl fY))), (rZ, .inl (cL, 81, .inr (.inl fZ))), (kX, .inl (cI, 81, .inl gX)), (kY, .inl (cI, 81, .inl gY)), (kZ, .inl (cI, 81, .inl gZ)), (aF, .inr (1, [.ref aH, .int (nI n)])), (aH, .inl (cL, 1001, .inr (.inl f))), (aE, .inl (cL, 500, .inr (.inl E0)))]) [0, 1, 2, 3, 4, 5, 6, 7, 8, 9, 10, 11, 12] (by decide) rfl
  refine wx_cv (wr := [(aK, .inl (cI, 6, .inl kp)), (aL, .inl (cL, 500, .inr (.inl G0)))]) (w1 := fun (u : (Nat → Int64) × (Nat → Int64) × (Nat → Int64) × (Nat → Int32) × (Nat → Int32) × (Nat → Int32) × (Nat) × (Nat → Int64) × (Nat → Int64)) => [(aR, .inr (2, [.ref aX, .ref aY, .ref aZ, .ref aK, .ref aF, .ref aE, .ref aL, .int 1, .int wd])), (aX, .inr (0, [.int wX, .int sX, .int tX, .ref rX, .ref kX])), (aY, .inr (0, [.int wY, .int sY, .int tY, .ref rY, .ref kY])), (aZ, .inr (0, [.int wZ, .int sZ, .int tZ, .ref rZ, .ref kZ])), (rX, .inl (cL, 81, .inr (.inl u.1))), (rY, .inl (cL, 81, .inr (.inl u.2.1))), (rZ, .inl (cL, 81, .inr (.inl u.2.2.1))), (kX, .inl (cI, 81, .inl u.2.2.2.1)), (kY, .inl (cI, 81, .inl u.2.2.2.2.1)), (kZ, .inl (cI, 81, .inl u.2.2.2.2.2.1)), (aF, .inr (1, [.ref aH, .int (nI u.2.2.2.2.2.2.1)])), (aH, .inl (cL, 1001, .inr (.inl u.2.2.2.2.2.2.2.1))), (aE, .inl (cL, 500, .inr (.inl u.2.2.2.2.2.2.2.2)))]) hP hD hS hA [0, 1, 2, 3, 4, 5, 6, 7, 8, 9, 10, 11, 12] [13, 14] rfl rfl (by decide) (by decide) (va_runV (As := []) (rest := []) ⟨hx, hb, hml, hown, hts⟩ (c_R_orderEchoes l dC dI cI cL aR aX aY aZ aK aF aE aL od wd wX sX tX rX kX wY sY tY rY kY wZ sZ tZ rZ kZ fX fY fZ gX gY gZ aH n f E0 _ hI.1 hI.2.1 hI.2.2.1 hI.2.2.2.2.1) (cwV 0 hts (gi_V mw285 mw282 mw284 mw6 mw30) rfl rfl rfl (by decide +kernel) ⟨Nat.le_of_ble_eq_true rfl, Nat.le_of_ble_eq_true rfl⟩) (wr_V hM hPc hDc rfl rfl rfl) rfl rfl hl.1 rfl (lv_room (Nat.le_of_ble_eq_true rfl)) d_R_weighEchoes_1 ⟨Nat.le_of_ble_eq_true rfl, Nat.le_of_ble_eq_true rfl⟩) (fun u H locs hu_10 hP hD hS => ?_)
  obtain ⟨fX_1, fY_2, fZ_3, gX_4, gY_5, gZ_6, n_7, f_8, E_9⟩ := u
  have hu_10 : ES wX sX tX wY sY tY wZ sZ tZ E_9 ∧ (od = 1 → E_9 = E0) := hu_10
  have hP := hP.sub (ws' := [(aR, .inr (2, [.ref aX, .ref aY, .ref aZ, .ref aK, .ref aF, .ref aE, .ref aL, .int 1, .int wd])), (aX, .inr (0, [.int wX, .int sX, .int tX, .ref rX, .ref kX])), (aY, .inr (0, [.int wY, .int sY, .int tY, .ref rY, .ref kY])), (aZ, .inr (0, [.int wZ, .int sZ, .int tZ, .ref rZ, .ref kZ])), (rX, .inl (cL, 81, .inr (.inl fX_1))), (rY, .inl (cL, 81, .inr (.inl fY_2))), (rZ, .inl (cL, 81, .inr (.inl fZ_3))), (kX, .inl (cI, 81, .inl gX_4)), (kY, .inl (cI, 81, .inl gY_5)), (kZ, .inl (cI, 81, .inl gZ_6)), (aF, .inr (1, [.ref aH, .int (nI n_7)])), (aH, .inl (cL, 1001, .inr (.inl f_8))), (aE, .inl (cL, 500, .inr (.inl E_9))), (aK, .inl (cI, 6, .inl kp)), (aL, .inl (cL, 500, .inr (.inl G0)))]) [2, 3, 4, 5, 6, 7, 8, 9, 10, 11, 12, 13, 14, 0, 1] rfl
  have hD := hD.sub (ws' := [(aR, .inr (2, [.ref aX, .ref aY, .ref aZ, .ref aK, .ref aF, .ref aE, .ref aL, .int 1, .int wd])), (aX, .inr (0, [.int wX, .int sX, .int tX, .ref rX, .ref kX])), (aY, .inr (0, [.int wY, .int sY, .int tY, .ref rY, .ref kY])), (aZ, .inr (0, [.int wZ, .int sZ, .int tZ, .ref rZ, .ref kZ])), (rX, .inl (cL, 81, .inr (.inl fX_1))), (rY, .inl (cL, 81, .inr (.inl fY_2))), (rZ, .inl (cL, 81, .inr (.inl fZ_3))), (kX, .inl (cI, 81, .inl gX_4)), (kY, .inl (cI, 81, .inl gY_5)), (kZ, .inl (cI, 81, .inl gZ_6)), (aF, .inr (1, [.ref aH, .int (nI n_7)])), (aH, .inl (cL, 1001, .inr (.inl f_8))), (aE, .inl (cL, 500, .inr (.inl E_9))), (aK, .inl (cI, 6, .inl kp)), (aL, .inl (cL, 500, .inr (.inl G0)))]) [2, 3, 4, 5, 6, 7, 8, 9, 10, 11, 12, 13, 14, 0, 1] (by decide) rfl
  refine lv_aload_n hx hb d_R_weighEchoes_4 rfl (lv_at hl 0 rfl) ?_
  refine va_get (D := (dC, dI)) (ci := 2) (v := .int wd) (C := "RoomEchoes") (T := FT_R) (N := 9) hx hb hts (hi_ in_R) hown hK hP 0 rfl rfl 8 (by decide) (ht_ hts mw104) (fun _ h9 => h9) rfl d_R_weighEchoes_5 ?_
  refine lv_if_eq (tgt := 12) hx hb d_R_weighEchoes_8 (by decide) (fun c_8 => ?_) (fun c_8 => ?_)
  · skip
    refine lv_iconst (v := 0) hx hb d_R_weighEchoes_12 (by decide) ?_
    refine lv_istore_n (lv' := [(1, .int 0), (0, .ref aR)]) hx hb d_R_weighEchoes_13 rfl hl (by decide) rfl (fun ls hl => ?_)
    have lp : ∀ (n9 : Nat) (k : Nat) (g : Nat → Int64), 500 < k + n9 → k ≤ 500 → (∀ j, j < k → g j = lou kp E_9 j) → ∀ (H : Heap) (locs : List Loc), va_P (dC, dI) vwCl [(aR, .inr (2, [.ref aX, .ref aY, .ref aZ, .ref aK, .ref aF, .ref aE, .ref aL, .int 1, .int wd])), (aX, .inr (0, [.int wX, .int sX, .int tX, .ref rX, .ref kX])), (aY, .inr (0, [.int wY, .int sY, .int tY, .ref rY, .ref kY])), (aZ, .inr (0, [.int wZ, .int sZ, .int tZ, .ref rZ, .ref kZ])), (rX, .inl (cL, 81, .inr (.inl fX_1))), (rY, .inl (cL, 81, .inr (.inl fY_2))), (rZ, .inl (cL, 81, .inr (.inl fZ_3))), (kX, .inl (cI, 81, .inl gX_4)), (kY, .inl (cI, 81, .inl gY_5)), (kZ, .inl (cI, 81, .inl gZ_6)), (aF, .inr (1, [.ref aH, .int (nI n_7)])), (aH, .inl (cL, 1001, .inr (.inl f_8))), (aE, .inl (cL, 500, .inr (.inl E_9))), (aK, .inl (cI, 6, .inl kp)), (aL, .inl (cL, 500, .inr (.inl g)))] H → va_D A [(aR, .inr (2, [.ref aX, .ref aY, .ref aZ, .ref aK, .ref aF, .ref aE, .ref aL, .int 1, .int wd])), (aX, .inr (0, [.int wX, .int sX, .int tX, .ref rX, .ref kX])), (aY, .inr (0, [.int wY, .int sY, .int tY, .ref rY, .ref kY])), (aZ, .inr (0, [.int wZ, .int sZ, .int tZ, .ref rZ, .ref kZ])), (rX, .inl (cL, 81, .inr (.inl fX_1))), (rY, .inl (cL, 81, .inr (.inl fY_2))), (rZ, .inl (cL, 81, .inr (.inl fZ_3))), (kX, .inl (cI, 81, .inl gX_4)), (kY, .inl (cI, 81, .inl gY_5)), (kZ, .inl (cI, 81, .inl gZ_6)), (aF, .inr (1, [.ref aH, .int (nI n_7)])), (aH, .inl (cL, 1001, .inr (.inl f_8))), (aE, .inl (cL, 500, .inr (.inl E_9))), (aK, .inl (cI, 6, .inl kp)), (aL, .inl (cL, 500, .inr (.inl g)))] → va_S A s.heap H locs → ∀ (ls : Array Slot), lv_has ls 6 [(1, .int (nI k)), (0, .ref aR)] → W p l e (headSpec w_R_weighEchoes ({ frames := 5, cells := 0, slots := 0, locals := 121 })).room s m ([.ref aR] : List Value).toArray below meth c H locs 0 0 (MQ below (va_Qv (fun (u : (Nat → Int64) × (Nat → Int64) × (Nat → Int64) × (Nat → Int32) × (Nat → Int32) × (Nat → Int32) × (Nat) × (Nat → Int64) × (Nat → Int64) × (Nat → Int64)) => RI wX sX tX wY sY tY wZ sZ tZ kp u.2.2.2.2.2.2.2.2.1 u.2.2.2.2.2.2.2.2.2 1 1) (fun u t => va_P (dC, dI) vwCl [(aR, .inr (2, [.ref aX, .ref aY, .ref aZ, .ref aK, .ref aF, .ref aE, .ref aL, .int 1, .int 1])), (aX, .inr (0, [.int wX, .int sX, .int tX, .ref rX, .ref kX])), (aY, .inr (0, [.int wY, .int sY, .int tY, .ref rY, .ref kY])), (aZ, .inr (0, [.int wZ, .int sZ, .int tZ, .ref rZ, .ref kZ])), (rX, .inl (cL, 81, .inr (.inl u.1))), (rY, .inl (cL, 81, .inr (.inl u.2.1))), (rZ, .inl (cL, 81, .inr (.inl u.2.2.1))), (kX, .inl (cI, 81, .inl u.2.2.2.1)), (kY, .inl (cI, 81, .inl u.2.2.2.2.1)), (kZ, .inl (cI, 81, .inl u.2.2.2.2.2.1)), (aF, .inr (1, [.ref aH, .int (nI u.2.2.2.2.2.2.1)])), (aH, .inl (cL, 1001, .inr (.inl u.2.2.2.2.2.2.2.1))), (aE, .inl (cL, 500, .inr (.inl u.2.2.2.2.2.2.2.2.1))), (aK, .inl (cI, 6, .inl kp)), (aL, .inl (cL, 500, .inr (.inl u.2.2.2.2.2.2.2.2.2)))] t.heap ∧ va_D A [(aR, .inr (2, [.ref aX, .ref aY, .ref aZ, .ref aK, .ref aF, .ref aE, .ref aL, .int 1, .int 1])), (aX, .inr (0, [.int wX, .int sX, .int tX, .ref rX, .ref kX])), (aY, .inr (0, [.int wY, .int sY, .int tY, .ref rY, .ref kY])), (aZ, .inr (0, [.int wZ, .int sZ, .int tZ, .ref rZ, .ref kZ])), (rX, .inl (cL, 81, .inr (.inl u.1))), (rY, .inl (cL, 81, .inr (.inl u.2.1))), (rZ, .inl (cL, 81, .inr (.inl u.2.2.1))), (kX, .inl (cI, 81, .inl u.2.2.2.1)), (kY, .inl (cI, 81, .inl u.2.2.2.2.1)), (kZ, .inl (cI, 81, .inl u.2.2.2.2.2.1)), (aF, .inr (1, [.ref aH, .int (nI u.2.2.2.2.2.2.1)])), (aH, .inl (cL, 1001, .inr (.inl u.2.2.2.2.2.2.2.1))), (aE, .inl (cL, 500, .inr (.inl u.2.2.2.2.2.2.2.2.1))), (aK, .inl (cI, 6, .inl kp)), (aL, .inl (cL, 500, .inr (.inl u.2.2.2.2.2.2.2.2.2)))]) A) ([.ref aR] : List Value).toArray s 0 0 A) (F0 m 14 ls []) := by
      intro n9
      induction n9 with
      | zero => intro k g hn hk hg H locs hP hD hS ls hl; omega
      | succ n9 ih =>
        intro k g hn hk hg H locs hP hD hS ls hl
        refine lv_iload_n hx hb d_R_weighEchoes_14 rfl (lv_at hl 0 rfl) ?_
        refine lv_sipush (v := 500) hx hb d_R_weighEchoes_15 (by decide) ?_
        refine lv_icmp_ge (tgt := 67) hx hb d_R_weighEchoes_18 (by decide) (fun c_18 => ?_) (fun c_18 => ?_)
        · skip
          refine lv_aload_n hx hb d_R_weighEchoes_67 rfl (lv_at hl 1 rfl) ?_
          refine lv_iconst (v := 1) hx hb d_R_weighEchoes_68 (by decide) ?_
          refine va_put (D := (dC, dI)) (ci := 2) (v := .int 1) (ty := .boolean) (C := "RoomEchoes") (T := FT_R) (N := 9) hx hb hts (hi_ in_R) ty_R tyo_R nm_R hown hK hP hD hS 0 rfl rfl 8 (by decide) (ht_ hts mw104) (fun _ h9 => h9) rfl (by decide +kernel) rfl rfl (Nat.le_of_ble_eq_true rfl) d_R_weighEchoes_69 (fun H locs hP hD hS => ?_)
          have hP : va_P (dC, dI) vwCl [(aR, .inr (2, [.ref aX, .ref aY, .ref aZ, .ref aK, .ref aF, .ref aE, .ref aL, .int 1, .int 1])), (aX, .inr (0, [.int wX, .int sX, .int tX, .ref rX, .ref kX])), (aY, .inr (0, [.int wY, .int sY, .int tY, .ref rY, .ref kY])), (aZ, .inr (0, [.int wZ, .int sZ, .int tZ, .ref rZ, .ref kZ])), (rX, .inl (cL, 81, .inr (.inl fX_1))), (rY, .inl (cL, 81, .inr (.inl fY_2))), (rZ, .inl (cL, 81, .inr (.inl fZ_3))), (kX, .inl (cI, 81, .inl gX_4)), (kY, .inl (cI, 81, .inl gY_5)), (kZ, .inl (cI, 81, .inl gZ_6)), (aF, .inr (1, [.ref aH, .int (nI n_7)])), (aH, .inl (cL, 1001, .inr (.inl f_8))), (aE, .inl (cL, 500, .inr (.inl E_9))), (aK, .inl (cI, 6, .inl kp)), (aL, .inl (cL, 500, .inr (.inl g)))] H := hP
          have hD : va_D A [(aR, .inr (2, [.ref aX, .ref aY, .ref aZ, .ref aK, .ref aF, .ref aE, .ref aL, .int 1, .int 1])), (aX, .inr (0, [.int wX, .int sX, .int tX, .ref rX, .ref kX])), (aY, .inr (0, [.int wY, .int sY, .int tY, .ref rY, .ref kY])), (aZ, .inr (0, [.int wZ, .int sZ, .int tZ, .ref rZ, .ref kZ])), (rX, .inl (cL, 81, .inr (.inl fX_1))), (rY, .inl (cL, 81, .inr (.inl fY_2))), (rZ, .inl (cL, 81, .inr (.inl fZ_3))), (kX, .inl (cI, 81, .inl gX_4)), (kY, .inl (cI, 81, .inl gY_5)), (kZ, .inl (cI, 81, .inl gZ_6)), (aF, .inr (1, [.ref aH, .int (nI n_7)])), (aH, .inl (cL, 1001, .inr (.inl f_8))), (aE, .inl (cL, 500, .inr (.inl E_9))), (aK, .inl (cI, 6, .inl kp)), (aL, .inl (cL, 500, .inr (.inl g)))] := hD
          have k5 : k = 500 := by have : 500 ≤ k := nu_end (x := 500) (by omega) c_18; omega
          rw [k5] at hg
          have hP9 : va_P (dC, dI) vwCl [(aR, .inr (2, [.ref aX, .ref aY, .ref aZ, .ref aK, .ref aF, .ref aE, .ref aL, .int 1, .int 1])), (aX, .inr (0, [.int wX, .int sX, .int tX, .ref rX, .ref kX])), (aY, .inr (0, [.int wY, .int sY, .int tY, .ref rY, .ref kY])), (aZ, .inr (0, [.int wZ, .int sZ, .int tZ, .ref rZ, .ref kZ])), (rX, .inl (cL, 81, .inr (.inl fX_1))), (rY, .inl (cL, 81, .inr (.inl fY_2))), (rZ, .inl (cL, 81, .inr (.inl fZ_3))), (kX, .inl (cI, 81, .inl gX_4)), (kY, .inl (cI, 81, .inl gY_5)), (kZ, .inl (cI, 81, .inl gZ_6)), (aF, .inr (1, [.ref aH, .int (nI n_7)])), (aH, .inl (cL, 1001, .inr (.inl f_8))), (aE, .inl (cL, 500, .inr (.inl E_9))), (aK, .inl (cI, 6, .inl kp)), (aL, .inl (cL, 500, .inr (.inl g)))] _ := hP
          have hD9 : va_D A [(aR, .inr (2, [.ref aX, .ref aY, .ref aZ, .ref aK, .ref aF, .ref aE, .ref aL, .int 1, .int 1])), (aX, .inr (0, [.int wX, .int sX, .int tX, .ref rX, .ref kX])), (aY, .inr (0, [.int wY, .int sY, .int tY, .ref rY, .ref kY])), (aZ, .inr (0, [.int wZ, .int sZ, .int tZ, .ref rZ, .ref kZ])), (rX, .inl (cL, 81, .inr (.inl fX_1))), (rY, .inl (cL, 81, .inr (.inl fY_2))), (rZ, .inl (cL, 81, .inr (.inl fZ_3))), (kX, .inl (cI, 81, .inl gX_4)), (kY, .inl (cI, 81, .inl gY_5)), (kZ, .inl (cI, 81, .inl gZ_6)), (aF, .inr (1, [.ref aH, .int (nI n_7)])), (aH, .inl (cL, 1001, .inr (.inl f_8))), (aE, .inl (cL, 500, .inr (.inl E_9))), (aK, .inl (cI, 6, .inl kp)), (aL, .inl (cL, 500, .inr (.inl g)))] := hD
          exact W.vret hx hb hr (fun t ht hW => ⟨⟨(fX_1, fY_2, fZ_3, gX_4, gY_5, gZ_6, n_7, f_8, E_9, g), rfl, ⟨hI.1, hI.2.1, hI.2.2.1, hI.2.2.2.1, Or.inr ⟨rfl, hu_10.1⟩, Or.inr ⟨rfl, rfl, hg⟩⟩, by rw [ht]; exact hP9, hD9⟩, hS.F ht⟩) hS.2.2 d_R_weighEchoes_72
        · skip
          have k5 : k < 500 := nu_on (x := 500) (by omega) c_18
          refine lv_aload_n hx hb d_R_weighEchoes_21 rfl (lv_at hl 1 rfl) ?_
          refine va_get (D := (dC, dI)) (ci := 2) (v := .ref aE) (C := "RoomEchoes") (T := FT_R) (N := 9) hx hb hts (hi_ in_R) hown hK hP 0 rfl rfl 5 (by decide) (ht_ hts mw101) (fun _ h9 => h9) rfl d_R_weighEchoes_22 ?_
          refine lv_iload_n hx hb d_R_weighEchoes_25 rfl (lv_at hl 0 rfl) ?_
          refine va_lald hx hb hK hP 12 1 rfl rfl (vp_in_nI (by omega) (by omega)) d_R_weighEchoes_26 ?_
          refine tp_l (E_9 k) (by rw [nI_clamp (by omega)]) ?_
          refine lv_lstore_n (lv' := [(2, .long (E_9 k)), (1, .int (nI k)), (0, .ref aR)]) hx hb d_R_weighEchoes_27 rfl hl (by decide) rfl (fun ls hl => ?_)
          refine lv_aload_n hx hb d_R_weighEchoes_28 rfl (lv_at hl 2 rfl) ?_
          refine lv_lload_n hx hb d_R_weighEchoes_29 rfl (lv_at hl 0 rfl) ?_
          refine rd_c (va_runS (As := [.long (E_9 k)]) (rest := [.ref aR]) ⟨hx, hb, hml, hown, hts⟩ (c_R_firstNumberIn l (E_9 k)) (cwS 1 hts (gi_S mw345 mw343 mw344 mw30) rfl rfl rfl (by decide +kernel) ⟨Nat.le_of_ble_eq_true rfl, Nat.le_of_ble_eq_true rfl⟩) st_S rfl rfl hl.1 rfl (lv_room (Nat.le_of_ble_eq_true rfl)) d_R_weighEchoes_30 ⟨Nat.le_of_ble_eq_true rfl, Nat.le_of_ble_eq_true rfl⟩) ?_
          refine lv_lload_n hx hb d_R_weighEchoes_33 rfl (lv_at hl 0 rfl) ?_
          refine rd_c (va_runS (As := [.long (E_9 k)]) (rest := [.int (j_R_firstNumberIn (E_9 k)), .ref aR]) ⟨hx, hb, hml, hown, hts⟩ (c_R_secondNumberIn l (E_9 k)) (cwS 1 hts (gi_S mw353 mw351 mw352 mw30) rfl rfl rfl (by decide +kernel) ⟨Nat.le_of_ble_eq_true rfl, Nat.le_of_ble_eq_true rfl⟩) st_S rfl rfl hl.1 rfl (lv_room (Nat.le_of_ble_eq_true rfl)) d_R_weighEchoes_34 ⟨Nat.le_of_ble_eq_true rfl, Nat.le_of_ble_eq_true rfl⟩) ?_
          refine lv_lload_n hx hb d_R_weighEchoes_37 rfl (lv_at hl 0 rfl) ?_
          refine rd_c (va_runS (As := [.long (E_9 k)]) (rest := [.int (j_R_secondNumberIn (E_9 k)), .int (j_R_firstNumberIn (E_9 k)), .ref aR]) ⟨hx, hb, hml, hown, hts⟩ (c_R_thirdNumberIn l (E_9 k)) (cwS 1 hts (gi_S mw356 mw354 mw355 mw30) rfl rfl rfl (by decide +kernel) ⟨Nat.le_of_ble_eq_true rfl, Nat.le_of_ble_eq_true rfl⟩) st_S rfl rfl hl.1 rfl (lv_room (Nat.le_of_ble_eq_true rfl)) d_R_weighEchoes_38 ⟨Nat.le_of_ble_eq_true rfl, Nat.le_of_ble_eq_true rfl⟩) ?_
          have hPc := hP.sub (ws' := [(aR, .inr (2, [.ref aX, .ref aY, .ref aZ, .ref aK, .ref aF, .ref aE, .ref aL, .int 1, .int wd])), (aK, .inl (cI, 6, .inl kp))]) [0, 13] rfl
          refine rd_c (va_runV (As := [.int (j_R_firstNumberIn (E_9 k)), .int (j_R_secondNumberIn (E_9 k)), .int (j_R_thirdNumberIn (E_9 k))]) (rest := []) ⟨hx, hb, hml, hown, hts⟩ (c_R_strengthOf l dC dI cI cL aR aX aY aZ aK aF aE aL 1 wd kp (j_R_firstNumberIn (E_9 k)) (j_R_secondNumberIn (E_9 k)) (j_R_thirdNumberIn (E_9 k))) (cwV 3 hts (gi_V mw251 mw248 mw250 mw5 mw30) rfl rfl rfl (by decide +kernel) ⟨Nat.le_of_ble_eq_true rfl, Nat.le_of_ble_eq_true rfl⟩) (rd_V hM hPc rfl rfl rfl) rfl rfl hl.1 rfl (lv_room (Nat.le_of_ble_eq_true rfl)) d_R_weighEchoes_41 ⟨Nat.le_of_ble_eq_true rfl, Nat.le_of_ble_eq_true rfl⟩) ?_
          refine lv_lstore (lv' := [(4, .long (j_R_strengthOf kp (j_R_firstNumberIn (E_9 k)) (j_R_secondNumberIn (E_9 k)) (j_R_thirdNumberIn (E_9 k)))), (2, .long (E_9 k)), (1, .int (nI k)), (0, .ref aR)]) hx hb d_R_weighEchoes_44 hl (by decide) rfl (fun ls hl => ?_)
          refine lv_aload_n hx hb d_R_weighEchoes_46 rfl (lv_at hl 3 rfl) ?_
          refine va_get (D := (dC, dI)) (ci := 2) (v := .ref aL) (C := "RoomEchoes") (T := FT_R) (N := 9) hx hb hts (hi_ in_R) hown hK hP 0 rfl rfl 6 (by decide) (ht_ hts mw102) (fun _ h9 => h9) rfl d_R_weighEchoes_47 ?_
          refine lv_iload_n hx hb d_R_weighEchoes_50 rfl (lv_at hl 2 rfl) ?_
          refine lv_lload hx hb d_R_weighEchoes_51 (lv_at hl 0 rfl) ?_
          refine lv_lload_n hx hb d_R_weighEchoes_53 rfl (lv_at hl 1 rfl) ?_
          refine rd_c (va_runS (As := [.long (E_9 k)]) (rest := [.long (j_R_strengthOf kp (j_R_firstNumberIn (E_9 k)) (j_R_secondNumberIn (E_9 k)) (j_R_thirdNumberIn (E_9 k))), .int (nI k), .ref aL]) ⟨hx, hb, hml, hown, hts⟩ (c_R_distanceIn l (E_9 k)) (cwS 1 hts (gi_S mw382 mw380 mw381 mw30) rfl rfl rfl (by decide +kernel) ⟨Nat.le_of_ble_eq_true rfl, Nat.le_of_ble_eq_true rfl⟩) st_S rfl rfl hl.1 rfl (lv_room (Nat.le_of_ble_eq_true rfl)) d_R_weighEchoes_54 ⟨Nat.le_of_ble_eq_true rfl, Nat.le_of_ble_eq_true rfl⟩) ?_
          refine rd_c (va_runS (As := [.long (j_R_strengthOf kp (j_R_firstNumberIn (E_9 k)) (j_R_secondNumberIn (E_9 k)) (j_R_thirdNumberIn (E_9 k))), .long (j_R_distanceIn (E_9 k))]) (rest := [.int (nI k), .ref aL]) ⟨hx, hb, hml, hown, hts⟩ (c_R_loudnessOf l (j_R_strengthOf kp (j_R_firstNumberIn (E_9 k)) (j_R_secondNumberIn (E_9 k)) (j_R_thirdNumberIn (E_9 k))) (j_R_distanceIn (E_9 k))) (cwS 2 hts (gi_S mw268 mw266 mw267 mw30) rfl rfl rfl (by decide +kernel) ⟨Nat.le_of_ble_eq_true rfl, Nat.le_of_ble_eq_true rfl⟩) st_S rfl rfl hl.1 rfl (lv_room (Nat.le_of_ble_eq_true rfl)) d_R_weighEchoes_57 ⟨Nat.le_of_ble_eq_true rfl, Nat.le_of_ble_eq_true rfl⟩) ?_
          refine va_last hx hb hK hP hD hS 14 1 rfl rfl (vp_in_nI (by omega) (by omega)) d_R_weighEchoes_60 (fun H locs hP hD hS => ?_)
          rw [nI_clamp (n := k) (by omega)] at hP hD
          have hP : va_P (dC, dI) vwCl [(aR, .inr (2, [.ref aX, .ref aY, .ref aZ, .ref aK, .ref aF, .ref aE, .ref aL, .int 1, .int wd])), (aX, .inr (0, [.int wX, .int sX, .int tX, .ref rX, .ref kX])), (aY, .inr (0, [.int wY, .int sY, .int tY, .ref rY, .ref kY])), (aZ, .inr (0, [.int wZ, .int sZ, .int tZ, .ref rZ, .ref kZ])), (rX, .inl (cL, 81, .inr (.inl fX_1))), (rY, .inl (cL, 81, .inr (.inl fY_2))), (rZ, .inl (cL, 81, .inr (.inl fZ_3))), (kX, .inl (cI, 81, .inl gX_4)), (kY, .inl (cI, 81, .inl gY_5)), (kZ, .inl (cI, 81, .inl gZ_6)), (aF, .inr (1, [.ref aH, .int (nI n_7)])), (aH, .inl (cL, 1001, .inr (.inl f_8))), (aE, .inl (cL, 500, .inr (.inl E_9))), (aK, .inl (cI, 6, .inl kp)), (aL, .inl (cL, 500, .inr (.inl (vp_updL g k (j_R_loudnessOf (j_R_strengthOf kp (j_R_firstNumberIn (E_9 k)) (j_R_secondNumberIn (E_9 k)) (j_R_thirdNumberIn (E_9 k))) (j_R_distanceIn (E_9 k)))))))] H := hP
          have hD : va_D A [(aR, .inr (2, [.ref aX, .ref aY, .ref aZ, .ref aK, .ref aF, .ref aE, .ref aL, .int 1, .int wd])), (aX, .inr (0, [.int wX, .int sX, .int tX, .ref rX, .ref kX])), (aY, .inr (0, [.int wY, .int sY, .int tY, .ref rY, .ref kY])), (aZ, .inr (0, [.int wZ, .int sZ, .int tZ, .ref rZ, .ref kZ])), (rX, .inl (cL, 81, .inr (.inl fX_1))), (rY, .inl (cL, 81, .inr (.inl fY_2))), (rZ, .inl (cL, 81, .inr (.inl fZ_3))), (kX, .inl (cI, 81, .inl gX_4)), (kY, .inl (cI, 81, .inl gY_5)), (kZ, .inl (cI, 81, .inl gZ_6)), (aF, .inr (1, [.ref aH, .int (nI n_7)])), (aH, .inl (cL, 1001, .inr (.inl f_8))), (aE, .inl (cL, 500, .inr (.inl E_9))), (aK, .inl (cI, 6, .inl kp)), (aL, .inl (cL, 500, .inr (.inl (vp_updL g k (j_R_loudnessOf (j_R_strengthOf kp (j_R_firstNumberIn (E_9 k)) (j_R_secondNumberIn (E_9 k)) (j_R_thirdNumberIn (E_9 k))) (j_R_distanceIn (E_9 k)))))))] := hD
          refine lv_iinc (v := nI (k + 1)) (lv' := [(1, .int (nI (k + 1))), (4, .long (j_R_strengthOf kp (j_R_firstNumberIn (E_9 k)) (j_R_secondNumberIn (E_9 k)) (j_R_thirdNumberIn (E_9 k)))), (2, .long (E_9 k)), (0, .ref aR)]) hx hb d_R_weighEchoes_61 hl (k := 2) rfl (nI_succ _).symm (by decide) rfl (fun ls hl => ?_)
          refine lv_goto (tgt := 14) hx hb d_R_weighEchoes_64 (by decide) ?_
          exact ih (k + 1) _ (by omega) (by omega) (wg_step hg rfl) _ _ hP hD hS ls (lv_sub hl [0, 3] rfl)
    exact lp 501 0 G0 (by omega) (by omega) (fun j hj => absurd hj (Nat.not_lt_zero j)) _ _ hP hD hS ls (lv_sub hl [0, 1] rfl)
  · skip
    have o1 : wd = 1 ∧ od = 1 ∧ ∀ k, k < 500 → G0 k = lou kp E0 k := hI.2.2.2.2.2.resolve_left c_8
    rw [o1.1] at hP hD
    have hP9 : va_P (dC, dI) vwCl [(aR, .inr (2, [.ref aX, .ref aY, .ref aZ, .ref aK, .ref aF, .ref aE, .ref aL, .int 1, .int 1])), (aX, .inr (0, [.int wX, .int sX, .int tX, .ref rX, .ref kX])), (aY, .inr (0, [.int wY, .int sY, .int tY, .ref rY, .ref kY])), (aZ, .inr (0, [.int wZ, .int sZ, .int tZ, .ref rZ, .ref kZ])), (rX, .inl (cL, 81, .inr (.inl fX_1))), (rY, .inl (cL, 81, .inr (.inl fY_2))), (rZ, .inl (cL, 81, .inr (.inl fZ_3))), (kX, .inl (cI, 81, .inl gX_4)), (kY, .inl (cI, 81, .inl gY_5)), (kZ, .inl (cI, 81, .inl gZ_6)), (aF, .inr (1, [.ref aH, .int (nI n_7)])), (aH, .inl (cL, 1001, .inr (.inl f_8))), (aE, .inl (cL, 500, .inr (.inl E_9))), (aK, .inl (cI, 6, .inl kp)), (aL, .inl (cL, 500, .inr (.inl G0)))] _ := hP
    have hD9 : va_D A [(aR, .inr (2, [.ref aX, .ref aY, .ref aZ, .ref aK, .ref aF, .ref aE, .ref aL, .int 1, .int 1])), (aX, .inr (0, [.int wX, .int sX, .int tX, .ref rX, .ref kX])), (aY, .inr (0, [.int wY, .int sY, .int tY, .ref rY, .ref kY])), (aZ, .inr (0, [.int wZ, .int sZ, .int tZ, .ref rZ, .ref kZ])), (rX, .inl (cL, 81, .inr (.inl fX_1))), (rY, .inl (cL, 81, .inr (.inl fY_2))), (rZ, .inl (cL, 81, .inr (.inl fZ_3))), (kX, .inl (cI, 81, .inl gX_4)), (kY, .inl (cI, 81, .inl gY_5)), (kZ, .inl (cI, 81, .inl gZ_6)), (aF, .inr (1, [.ref aH, .int (nI n_7)])), (aH, .inl (cL, 1001, .inr (.inl f_8))), (aE, .inl (cL, 500, .inr (.inl E_9))), (aK, .inl (cI, 6, .inl kp)), (aL, .inl (cL, 500, .inr (.inl G0)))] := hD
    exact W.vret hx hb hr (fun t ht hW => ⟨⟨(fX_1, fY_2, fZ_3, gX_4, gY_5, gZ_6, n_7, f_8, E_9, G0), rfl, ⟨hI.1, hI.2.1, hI.2.2.1, hI.2.2.2.1, Or.inr ⟨rfl, hu_10.1⟩, Or.inr ⟨rfl, rfl, by rw [hu_10.2 o1.2.1]; exact o1.2.2⟩⟩, by rw [ht]; exact hP9, hD9⟩, hS.F ht⟩) hS.2.2 d_R_weighEchoes_11
end
section
/-! NEW: arrays of a known class, fields at birth -/
section NEW
variable {p : Program} {l : Launch} {e : Env} {R : Room} {s : State} {m : MethodId} {args : Array Value} {below : List Frame} {meth : Method} {c : Code} {H H0 : Heap} {locs : List Loc} {cells slots : Nat} {Q : State → Prop}
variable {D : va_G} {cI cL : ClassId} {ws : va_W} {A : Nat → Prop} {cc : ByteArray} {pc : Nat} {ls : Array Slot} {rest : List Value}
theorem nw_l (hexec : p.tables.exec = Jvm.exec) (hb : c.code = cc) (harr : (Cond.arrayClass .long).before args s = true) (hM : am D cI cL s) (hP : va_P D vwCl ws H) (hD : va_D A ws) (hS : va_S A H0 H locs) (hA : ∀ q, H0.size ≤ q → A q)
    {n : Int32} {N' : Nat} (hn : ¬ n < 0) (hN : n.toNatClampNeg = N') (hbytes : N' * componentBytes .long ≤ 536870912) (hcells : cells + 1 ≤ R.cells) (hslots : slots + N' ≤ R.slots) (hdg : decode cc pc = .ok (.newarray .long, 2))
    (kk : ∀ (q : Nat) (H1 : Heap), va_P D vwCl (ws ++ [(q, .inl (cL, N', .inr (.inl (fun _ => 0))))]) H1 → va_D A (ws ++ [(q, .inl (cL, N', .inr (.inl (fun _ => 0))))]) → va_S A H0 H1 locs →
      W p l e R s m args below meth c H1 locs (cells + 1) (slots + N') Q (F0 m (pc + 2) ls (.ref q :: rest))) : W p l e R s m args below meth c H locs cells slots Q (F0 m pc ls (.int n :: rest)) := by
  refine va_newaK (atype := .long) hexec hb harr rfl hdg rfl hn hN hbytes hcells hslots rfl fun H1 cA e1 z1 o1 hAr hNm => ?_
  have ec : cA = cL := Option.some.inj (hNm.symm.trans hM.2.2.2.2.2)
  subst ec
  have hk : ∀ (k : Nat) (x : Nat × va_E), ws[k]? = some x → H1[x.1]? = H[x.1]? := fun k x hx => o1 x.1 ((hP k x hx).lt)
  refine kk H.size H1 ((hP.kept hk).app (fun k x hx => ?_)) (hD.push hP rfl (hA _ hS.1)) ⟨Nat.le_trans hS.1 (by omega), fun x h1 h2 => (o1 x (Nat.lt_of_lt_of_le h1 hS.1)).trans (hS.2.1 x h1 h2), hS.2.2⟩
  have hz : k < 1 := (List.getElem?_eq_some_iff.mp hx).1
  rw [show k = 0 by omega] at hx
  cases hx
  exact e1
theorem nw_i (hexec : p.tables.exec = Jvm.exec) (hb : c.code = cc) (harr : (Cond.arrayClass .int).before args s = true) (hM : am D cI cL s) (hP : va_P D vwCl ws H) (hD : va_D A ws) (hS : va_S A H0 H locs) (hA : ∀ q, H0.size ≤ q → A q)
    {n : Int32} {N' : Nat} (hn : ¬ n < 0) (hN : n.toNatClampNeg = N') (hbytes : N' * componentBytes .int ≤ 536870912) (hcells : cells + 1 ≤ R.cells) (hslots : slots + N' ≤ R.slots) (hdg : decode cc pc = .ok (.newarray .int, 2))
    (kk : ∀ (q : Nat) (H1 : Heap), va_P D vwCl (ws ++ [(q, .inl (cI, N', .inl (fun _ => 0)))]) H1 → va_D A (ws ++ [(q, .inl (cI, N', .inl (fun _ => 0)))]) → va_S A H0 H1 locs →
      W p l e R s m args below meth c H1 locs (cells + 1) (slots + N') Q (F0 m (pc + 2) ls (.ref q :: rest))) : W p l e R s m args below meth c H locs cells slots Q (F0 m pc ls (.int n :: rest)) := by
  refine va_newaK (atype := .int) hexec hb harr rfl hdg rfl hn hN hbytes hcells hslots rfl fun H1 cA e1 z1 o1 hAr hNm => ?_
  have ec : cA = cI := Option.some.inj (hNm.symm.trans hM.2.2.2.2.1)
  subst ec
  have hk : ∀ (k : Nat) (x : Nat × va_E), ws[k]? = some x → H1[x.1]? = H[x.1]? := fun k x hx => o1 x.1 ((hP k x hx).lt)
  refine kk H.size H1 ((hP.kept hk).app (fun k x hx => ?_)) (hD.push hP rfl (hA _ hS.1)) ⟨Nat.le_trans hS.1 (by omega), fun x h1 h2 => (o1 x (Nat.lt_of_lt_of_le h1 hS.1)).trans (hS.2.1 x h1 h2), hS.2.2⟩
  have hz : k < 1 := (List.getElem?_eq_some_iff.mp hx).1
  rw [show k = 0 by omega] at hx
  cases hx
  exact e1
end NEW
theorem df_A : ∀ j, j < 5 → defaultValue (ty_A j) = vp_V [.int 0, .int 0, .int 0, .null, .null] j := fun j hj => match j, hj with
  | 0, _ => rfl
  | 1, _ => rfl
  | 2, _ => rfl
  | 3, _ => rfl
  | 4, _ => rfl
  | j + 5, h => absurd h (by omega)
theorem df_F : ∀ j, j < 2 → defaultValue (ty_F j) = vp_V [.null, .int 0] j := fun j hj => match j, hj with
  | 0, _ => rfl
  | 1, _ => rfl
  | j + 2, h => absurd h (by omega)
theorem df_R : ∀ j, j < 9 → defaultValue (ty_R j) = vp_V [.null, .null, .null, .null, .null, .null, .null, .int 0, .int 0] j := fun j hj => match j, hj with
  | 0, _ => rfl
  | 1, _ => rfl
  | 2, _ => rfl
  | 3, _ => rfl
  | 4, _ => rfl
  | 5, _ => rfl
  | 6, _ => rfl
  | 7, _ => rfl
  | 8, _ => rfl
  | j + 9, h => absurd h (by omega)
theorem df_M : ∀ j, j < 12 → defaultValue (ty_M j) = vp_V [.int 0, .null, .null, .null, .null, .int 0, .null, .null, .null, .null, .null, .null] j := fun j hj => match j, hj with
  | 0, _ => rfl
  | 1, _ => rfl
  | 2, _ => rfl
  | 3, _ => rfl
  | 4, _ => rfl
  | 5, _ => rfl
  | 6, _ => rfl
  | 7, _ => rfl
  | 8, _ => rfl
  | 9, _ => rfl
  | 10, _ => rfl
  | 11, _ => rfl
  | j + 12, h => absurd h (by omega)
theorem kp_step {g : Nat → Int32} {k : Nat} (h : ∀ j, j < k → g j = 900) : ∀ j, j < k + 1 → upd g k 900 j = 900 := by
  intro j hj
  unfold upd
  by_cases q : j = k
  · subst q; rw [if_pos rfl]
  · rw [if_neg q]; exact h j (by omega)
/-- the reference's size -/
def j_cl (x : Int32) : Int32 := if x < 1 then 1 else if 1000 < x then 1000 else x
end
section
set_option maxHeartbeats 4000000 in
set_option maxRecDepth 100000 in
theorem c_A_init (l : Launch) (dC : Nat → ClassId) (dI : Nat → Nat → Nat) (cI cL : ClassId) (aA : Nat) (w : Int32) (sz : Nat) : Met l y_A_init w_A_init ({ frames := 1, cells := 2, slots := 162, locals := 12 }) (wr_P (dC, dI) cI cL [(aA, .inr (0, [.int 0, .int 0, .int 0, .null, .null]))] sz [.ref aA, .int w]) (va_Qv (fun (u : (Nat) × (Nat)) => True) (fun u t => va_P (dC, dI) vwCl [(aA, .inr (0, [.int w, .int 0, .int 0, .ref u.1, .ref u.2])), (u.1, .inl (cL, 81, .inr (.inl (fun _ => 0)))), (u.2, .inl (cI, 81, .inl (fun _ => 0)))] t.heap ∧ va_D (va_A [(aA, .inr (0, [.int 0, .int 0, .int 0, .null, .null]))] sz) [(aA, .inr (0, [.int w, .int 0, .int 0, .ref u.1, .ref u.2])), (u.1, .inl (cL, 81, .inr (.inl (fun _ => 0)))), (u.2, .inl (cI, 81, .inl (fun _ => 0)))]) (va_A [(aA, .inr (0, [.int 0, .int 0, .int 0, .null, .null]))] sz)) 2 162 (va_A [(aA, .inr (0, [.int 0, .int 0, .int 0, .null, .null]))] sz) := by
  refine Met.ofW (cc := b_A_init) (maxL := 2) (ret := none) (by decide) rfl ?_
  intro p e s m args below meth c s₁ B hml hv
  obtain ⟨rfl, hsz, hP, hM, hD0⟩ := hv
  have hx := B.exec
  have hb := B.bytes
  have hr := B.returns
  have hts := atoms_spec (ws := w_A_init) B.pre
  have hown : s.vm.findClass "RoomEchoes$Axis" = some m.cls := findClass_of_methodNamed B.named
  have hlocks := B.notSynchronized
  have hK := hM.1
  have hin : meth.name = "<init>" := (name_of_methodNamed B.named B.method).1
  subst hsz
  have hD := hD0.self (sz := s.heap.size)
  generalize hAe : va_A [(aA, .inr (0, [.int 0, .int 0, .int 0, .null, .null]))] s.heap.size = A at hD ⊢
  have hA : ∀ q : Nat, s.heap.size ≤ q → A q := fun q h => by rw [← hAe]; exact Or.inr h
  have hS : va_S A s.heap s.heap [] := va_S.rf
  have hP : va_P (dC, dI) vwCl [(aA, .inr (0, [.int 0, .int 0, .int 0, .null, .null]))] s.heap := hP
  have hl := lv_entry ([.ref aA, .int w]) (n := 2) (Nat.le_of_ble_eq_true rfl)
  rw [lg_entry_eq]
  generalize (lg_sl ([.ref aA, .int w]) ++ List.replicate (2 - (lg_sl ([.ref aA, .int w])).length) Slot.unset).toArray = ls at hl ⊢
  have hl : lv_has ls 2 [(0, .ref aA), (1, .int w)] := hl
  refine lv_aload_n hx hb d_A_init_0 rfl (lv_at hl 0 rfl) ?_
  refine W.objInit hx hb hown (ht_ hts mw76) (ht_ hts mw45) (ht_ hts mw46) rfl (by rw [hml]; exact hl.1) rfl d_A_init_1 (Nat.le_of_ble_eq_true rfl) (Nat.le_of_ble_eq_true rfl) ?_
  refine W.eq (g2 := F0 m 4 ls []) rfl ?_
  refine lv_aload_n hx hb d_A_init_4 rfl (lv_at hl 0 rfl) ?_
  refine lv_bipush (v := 81) hx hb d_A_init_5 (by decide) ?_
  refine nw_l (N' := 81) hx hb (ht_ hts mw61) hM hP hD hS hA (by decide) (by decide) (by decide) (Nat.le_of_ble_eq_true rfl) (Nat.le_of_ble_eq_true rfl) d_A_init_7 (fun q_1 H hP hD hS => ?_)
  have hP : va_P (dC, dI) vwCl [(aA, .inr (0, [.int 0, .int 0, .int 0, .null, .null])), (q_1, .inl (cL, 81, .inr (.inl (fun _ => 0))))] H := hP
  have hD : va_D A [(aA, .inr (0, [.int 0, .int 0, .int 0, .null, .null])), (q_1, .inl (cL, 81, .inr (.inl (fun _ => 0))))] := hD
  refine W.widen (k := 1) (n := 81) (Nat.le_of_ble_eq_true rfl) (Nat.le_of_ble_eq_true rfl) ?_
  refine va_putF (D := (dC, dI)) (ci := 0) (v := .ref q_1) (ty := .array .long) (C := "RoomEchoes$Axis") (T := FT_A) (N := 5) hx hb hts (hi_ in_A) ty_A tyo_A nm_A hown hK hP hD hS 0 rfl rfl 3 (by decide) (ht_ hts mw83) (fun _ h9 => h9) rfl hin rfl (by decide +kernel) rfl rfl (Nat.le_of_ble_eq_true rfl) d_A_init_9 (fun H locs hP hD hS => ?_)
  have hP : va_P (dC, dI) vwCl [(aA, .inr (0, [.int 0, .int 0, .int 0, .ref q_1, .null])), (q_1, .inl (cL, 81, .inr (.inl (fun _ => 0))))] H := hP
  have hD : va_D A [(aA, .inr (0, [.int 0, .int 0, .int 0, .ref q_1, .null])), (q_1, .inl (cL, 81, .inr (.inl (fun _ => 0))))] := hD
  refine lv_aload_n hx hb d_A_init_12 rfl (lv_at hl 0 rfl) ?_
  refine lv_bipush (v := 81) hx hb d_A_init_13 (by decide) ?_
  refine nw_i (N' := 81) hx hb (ht_ hts mw60) hM hP hD hS hA (by decide) (by decide) (by decide) (Nat.le_of_ble_eq_true rfl) (Nat.le_of_ble_eq_true rfl) d_A_init_15 (fun q_2 H hP hD hS => ?_)
  have hP : va_P (dC, dI) vwCl [(aA, .inr (0, [.int 0, .int 0, .int 0, .ref q_1, .null])), (q_1, .inl (cL, 81, .inr (.inl (fun _ => 0)))), (q_2, .inl (cI, 81, .inl (fun _ => 0)))] H := hP
  have hD : va_D A [(aA, .inr (0, [.int 0, .int 0, .int 0, .ref q_1, .null])), (q_1, .inl (cL, 81, .inr (.inl (fun _ => 0)))), (q_2, .inl (cI, 81, .inl (fun _ => 0)))] := hD
  refine W.widen (k := 2) (n := 162) (Nat.le_of_ble_eq_true rfl) (Nat.le_of_ble_eq_true rfl) ?_
  refine va_putF (D := (dC, dI)) (ci := 0) (v := .ref q_2) (ty := .array .int) (C := "RoomEchoes$Axis") (T := FT_A) (N := 5) hx hb hts (hi_ in_A) ty_A tyo_A nm_A hown hK hP hD hS 0 rfl rfl 4 (by decide) (ht_ hts mw84) (fun _ h9 => h9) rfl hin rfl (by decide +kernel) rfl rfl (Nat.le_of_ble_eq_true rfl) d_A_init_17 (fun H locs hP hD hS => ?_)
  have hP : va_P (dC, dI) vwCl [(aA, .inr (0, [.int 0, .int 0, .int 0, .ref q_1, .ref q_2])), (q_1, .inl (cL, 81, .inr (.inl (fun _ => 0)))), (q_2, .inl (cI, 81, .inl (fun _ => 0)))] H := hP
  have hD : va_D A [(aA, .inr (0, [.int 0, .int 0, .int 0, .ref q_1, .ref q_2])), (q_1, .inl (cL, 81, .inr (.inl (fun _ => 0)))), (q_2, .inl (cI, 81, .inl (fun _ => 0)))] := hD
  refine lv_aload_n hx hb d_A_init_20 rfl (lv_at hl 0 rfl) ?_
  refine lv_iload_n hx hb d_A_init_21 rfl (lv_at hl 1 rfl) ?_
  refine va_putF (D := (dC, dI)) (ci := 0) (v := .int w) (ty := .int) (C := "RoomEchoes$Axis") (T := FT_A) (N := 5) hx hb hts (hi_ in_A) ty_A tyo_A nm_A hown hK hP hD hS 0 rfl rfl 0 (by decide) (ht_ hts mw77) (fun _ h9 => h9) rfl hin rfl (by decide +kernel) rfl rfl (Nat.le_of_ble_eq_true rfl) d_A_init_22 (fun H locs hP hD hS => ?_)
  have hP : va_P (dC, dI) vwCl [(aA, .inr (0, [.int w, .int 0, .int 0, .ref q_1, .ref q_2])), (q_1, .inl (cL, 81, .inr (.inl (fun _ => 0)))), (q_2, .inl (cI, 81, .inl (fun _ => 0)))] H := hP
  have hD : va_D A [(aA, .inr (0, [.int w, .int 0, .int 0, .ref q_1, .ref q_2])), (q_1, .inl (cL, 81, .inr (.inl (fun _ => 0)))), (q_2, .inl (cI, 81, .inl (fun _ => 0)))] := hD
  have hP9 : va_P (dC, dI) vwCl [(aA, .inr (0, [.int w, .int 0, .int 0, .ref q_1, .ref q_2])), (q_1, .inl (cL, 81, .inr (.inl (fun _ => 0)))), (q_2, .inl (cI, 81, .inl (fun _ => 0)))] _ := hP
  have hD9 : va_D A [(aA, .inr (0, [.int w, .int 0, .int 0, .ref q_1, .ref q_2])), (q_1, .inl (cL, 81, .inr (.inl (fun _ => 0)))), (q_2, .inl (cI, 81, .inl (fun _ => 0)))] := hD
  exact W.vret hx hb hr (fun t ht hW => ⟨⟨(q_1, q_2), rfl, trivial, by rw [ht]; exact hP9, hD9⟩, hS.F ht⟩) hS.2.2 d_A_init_25

set_option maxHeartbeats 4000000 in
set_option maxRecDepth 100000 in
theorem c_F_init (l : Launch) (dC : Nat → ClassId) (dI : Nat → Nat → Nat) (cI cL : ClassId) (aF : Nat) (sz : Nat) : Met l y_F_init w_F_init ({ frames := 1, cells := 1, slots := 1001, locals := 12 }) (wr_P (dC, dI) cI cL [(aF, .inr (1, [.null, .int 0]))] sz [.ref aF]) (va_Qv (fun (u : (Nat)) => True) (fun u t => va_P (dC, dI) vwCl [(aF, .inr (1, [.ref u, .int 0])), (u, .inl (cL, 1001, .inr (.inl (fun _ => 0))))] t.heap ∧ va_D (va_A [(aF, .inr (1, [.null, .int 0]))] sz) [(aF, .inr (1, [.ref u, .int 0])), (u, .inl (cL, 1001, .inr (.inl (fun _ => 0))))]) (va_A [(aF, .inr (1, [.null, .int 0]))] sz)) 1 1001 (va_A [(aF, .inr (1, [.null, .int 0]))] sz) := by
  refine Met.ofW (cc := b_F_init) (maxL := 1) (ret := none) (by decide) rfl ?_
  intro p e s m args below meth c s₁ B hml hv
  obtain ⟨rfl, hsz, hP, hM, hD0⟩ := hv
  have hx := B.exec
  have hb := B.bytes
  have hr := B.returns
  have hts := atoms_spec (ws := w_F_init) B.pre
  have hown : s.vm.findClass "RoomEchoes$Frontier" = some m.cls := findClass_of_methodNamed B.named
  have hlocks := B.notSynchronized
  have hK := hM.1
  have hin : meth.name = "<init>" := (name_of_methodNamed B.named B.method).1
  subst hsz
  have hD := hD0.self (sz := s.heap.size)
  generalize hAe : va_A [(aF, .inr (1, [.null, .int 0]))] s.heap.size = A at hD ⊢
  have hA : ∀ q : Nat, s.heap.size ≤ q → A q := fun q h => by rw [← hAe]; exact Or.inr h
  have hS : va_S A s.heap s.heap [] := va_S.rf
  have hP : va_P (dC, dI) vwCl [(aF, .inr (1, [.null, .int 0]))] s.heap := hP
  have hl := lv_entry ([.ref aF]) (n := 1) (Nat.le_of_ble_eq_true rfl)
  rw [lg_entry_eq]
  generalize (lg_sl ([.ref aF]) ++ List.replicate (1 - (lg_sl ([.ref aF])).length) Slot.unset).toArray = ls at hl ⊢
  have hl : lv_has ls 1 [(0, .ref aF)] := hl
  refine lv_aload_n hx hb d_F_init_0 rfl (lv_at hl 0 rfl) ?_
  refine W.objInit hx hb hown (ht_ hts mw52) (ht_ hts mw45) (ht_ hts mw46) rfl (by rw [hml]; exact hl.1) rfl d_F_init_1 (Nat.le_of_ble_eq_true rfl) (Nat.le_of_ble_eq_true rfl) ?_
  refine W.eq (g2 := F0 m 4 ls []) rfl ?_
  refine lv_aload_n hx hb d_F_init_4 rfl (lv_at hl 0 rfl) ?_
  refine lv_sipush (v := 1001) hx hb d_F_init_5 (by decide) ?_
  refine nw_l (N' := 1001) hx hb (ht_ hts mw61) hM hP hD hS hA (by decide) (by decide) (by decide) (Nat.le_of_ble_eq_true rfl) (Nat.le_of_ble_eq_true rfl) d_F_init_8 (fun q_1 H hP hD hS => ?_)
  have hP : va_P (dC, dI) vwCl [(aF, .inr (1, [.null, .int 0])), (q_1, .inl (cL, 1001, .inr (.inl (fun _ => 0))))] H := hP
  have hD : va_D A [(aF, .inr (1, [.null, .int 0])), (q_1, .inl (cL, 1001, .inr (.inl (fun _ => 0))))] := hD
  refine W.widen (k := 1) (n := 1001) (Nat.le_of_ble_eq_true rfl) (Nat.le_of_ble_eq_true rfl) ?_
  refine va_putF (D := (dC, dI)) (ci := 1) (v := .ref q_1) (ty := .array .long) (C := "RoomEchoes$Frontier") (T := FT_F) (N := 2) hx hb hts (hi_ in_F) ty_F tyo_F nm_F hown hK hP hD hS 0 rfl rfl 0 (by decide) (ht_ hts mw53) (fun _ h9 => h9) rfl hin rfl (by decide +kernel) rfl rfl (Nat.le_of_ble_eq_true rfl) d_F_init_10 (fun H locs hP hD hS => ?_)
  have hP : va_P (dC, dI) vwCl [(aF, .inr (1, [.ref q_1, .int 0])), (q_1, .inl (cL, 1001, .inr (.inl (fun _ => 0))))] H := hP
  have hD : va_D A [(aF, .inr (1, [.ref q_1, .int 0])), (q_1, .inl (cL, 1001, .inr (.inl (fun _ => 0))))] := hD
  have hP9 : va_P (dC, dI) vwCl [(aF, .inr (1, [.ref q_1, .int 0])), (q_1, .inl (cL, 1001, .inr (.inl (fun _ => 0))))] _ := hP
  have hD9 : va_D A [(aF, .inr (1, [.ref q_1, .int 0])), (q_1, .inl (cL, 1001, .inr (.inl (fun _ => 0))))] := hD
  exact W.vret hx hb hr (fun t ht hW => ⟨⟨(q_1), rfl, trivial, by rw [ht]; exact hP9, hD9⟩, hS.F ht⟩) hS.2.2 d_F_init_13

set_option maxHeartbeats 4000000 in
set_option maxRecDepth 100000 in
theorem c_R_init (l : Launch) (dC : Nat → ClassId) (dI : Nat → Nat → Nat) (cI cL : ClassId) (aR : Nat) (x : Int32) (y : Int32) (z : Int32) (sz : Nat) : Met l y_R_init w_R_init ({ frames := 2, cells := 14, slots := 2510, locals := 34 }) (wr_P (dC, dI) cI cL [(aR, .inr (2, [.null, .null, .null, .null, .null, .null, .null, .int 0, .int 0]))] sz [.ref aR, .int x, .int y, .int z]) (va_Qv (fun (u : (Nat) × (Nat) × (Nat) × (Nat) × (Nat) × (Nat) × (Nat) × (Nat) × (Nat) × (Nat) × (Nat) × (Nat) × (Nat) × (Nat) × (Nat → Int32)) => ∀ j, j < 6 → u.2.2.2.2.2.2.2.2.2.2.2.2.2.2 j = 900) (fun u t => va_P (dC, dI) vwCl [(aR, .inr (2, [.ref u.1, .ref u.2.1, .ref u.2.2.1, .ref u.2.2.2.2.2.2.2.2.2.2.2.2.1, .ref u.2.2.2.2.2.2.2.2.2.1, .ref u.2.2.2.2.2.2.2.2.2.2.2.1, .ref u.2.2.2.2.2.2.2.2.2.2.2.2.2.1, .int 0, .int 0])), (u.1, .inr (0, [.int (j_R_sizeWithin x), .int 0, .int 0, .ref u.2.2.2.1, .ref u.2.2.2.2.2.2.1])), (u.2.1, .inr (0, [.int (j_R_sizeWithin y), .int 0, .int 0, .ref u.2.2.2.2.1, .ref u.2.2.2.2.2.2.2.1])), (u.2.2.1, .inr (0, [.int (j_R_sizeWithin z), .int 0, .int 0, .ref u.2.2.2.2.2.1, .ref u.2.2.2.2.2.2.2.2.1])), (u.2.2.2.1, .inl (cL, 81, .inr (.inl (fun _ => 0)))), (u.2.2.2.2.1, .inl (cL, 81, .inr (.inl (fun _ => 0)))), (u.2.2.2.2.2.1, .inl (cL, 81, .inr (.inl (fun _ => 0)))), (u.2.2.2.2.2.2.1, .inl (cI, 81, .inl (fun _ => 0))), (u.2.2.2.2.2.2.2.1, .inl (cI, 81, .inl (fun _ => 0))), (u.2.2.2.2.2.2.2.2.1, .inl (cI, 81, .inl (fun _ => 0))), (u.2.2.2.2.2.2.2.2.2.1, .inr (1, [.ref u.2.2.2.2.2.2.2.2.2.2.1, .int 0])), (u.2.2.2.2.2.2.2.2.2.2.1, .inl (cL, 1001, .inr (.inl (fun _ => 0)))), (u.2.2.2.2.2.2.2.2.2.2.2.1, .inl (cL, 500, .inr (.inl (fun _ => 0)))), (u.2.2.2.2.2.2.2.2.2.2.2.2.1, .inl (cI, 6, .inl u.2.2.2.2.2.2.2.2.2.2.2.2.2.2)), (u.2.2.2.2.2.2.2.2.2.2.2.2.2.1, .inl (cL, 500, .inr (.inl (fun _ => 0))))] t.heap ∧ va_D (va_A [(aR, .inr (2, [.null, .null, .null, .null, .null, .null, .null, .int 0, .int 0]))] sz) [(aR, .inr (2, [.ref u.1, .ref u.2.1, .ref u.2.2.1, .ref u.2.2.2.2.2.2.2.2.2.2.2.2.1, .ref u.2.2.2.2.2.2.2.2.2.1, .ref u.2.2.2.2.2.2.2.2.2.2.2.1, .ref u.2.2.2.2.2.2.2.2.2.2.2.2.2.1, .int 0, .int 0])), (u.1, .inr (0, [.int (j_R_sizeWithin x), .int 0, .int 0, .ref u.2.2.2.1, .ref u.2.2.2.2.2.2.1])), (u.2.1, .inr (0, [.int (j_R_sizeWithin y), .int 0, .int 0, .ref u.2.2.2.2.1, .ref u.2.2.2.2.2.2.2.1])), (u.2.2.1, .inr (0, [.int (j_R_sizeWithin z), .int 0, .int 0, .ref u.2.2.2.2.2.1, .ref u.2.2.2.2.2.2.2.2.1])), (u.2.2.2.1, .inl (cL, 81, .inr (.inl (fun _ => 0)))), (u.2.2.2.2.1, .inl (cL, 81, .inr (.inl (fun _ => 0)))), (u.2.2.2.2.2.1, .inl (cL, 81, .inr (.inl (fun _ => 0)))), (u.2.2.2.2.2.2.1, .inl (cI, 81, .inl (fun _ => 0))), (u.2.2.2.2.2.2.2.1, .inl (cI, 81, .inl (fun _ => 0))), (u.2.2.2.2.2.2.2.2.1, .inl (cI, 81, .inl (fun _ => 0))), (u.2.2.2.2.2.2.2.2.2.1, .inr (1, [.ref u.2.2.2.2.2.2.2.2.2.2.1, .int 0])), (u.2.2.2.2.2.2.2.2.2.2.1, .inl (cL, 1001, .inr (.inl (fun _ => 0)))), (u.2.2.2.2.2.2.2.2.2.2.2.1, .inl (cL, 500, .inr (.inl (fun _ => 0)))), (u.2.2.2.2.2.2.2.2.2.2.2.2.1, .inl (cI, 6, .inl u.2.2.2.2.2.2.2.2.2.2.2.2.2.2)), (u.2.2.2.2.2.2.2.2.2.2.2.2.2.1, .inl (cL, 500, .inr (.inl (fun _ => 0))))]) (va_A [(aR, .inr (2, [.null, .null, .null, .null, .null, .null, .null, .int 0, .int 0]))] sz)) 14 2510 (va_A [(aR, .inr (2, [.null, .null, .null, .null, .null, .null, .null, .int 0, .int 0]))] sz) := by
  refine Met.ofW (cc := b_R_init) (maxL := 5) (ret := none) (by decide) rfl ?_
  intro p e s m args below meth c s₁ B hml hv
  obtain ⟨rfl, hsz, hP, hM, hD0⟩ := hv
  have hx := B.exec
  have hb := B.bytes
  have hr := B.returns
  have hts := atoms_spec (ws := w_R_init) B.pre
  have hown : s.vm.findClass "RoomEchoes" = some m.cls := findClass_of_methodNamed B.named
  have hlocks := B.notSynchronized
  have hK := hM.1
  have hin : meth.name = "<init>" := (name_of_methodNamed B.named B.method).1
  subst hsz
  have hD := hD0.self (sz := s.heap.size)
  generalize hAe : va_A [(aR, .inr (2, [.null, .null, .null, .null, .null, .null, .null, .int 0, .int 0]))] s.heap.size = A at hD ⊢
  have hA : ∀ q : Nat, s.heap.size ≤ q → A q := fun q h => by rw [← hAe]; exact Or.inr h
  have hS : va_S A s.heap s.heap [] := va_S.rf
  have hP : va_P (dC, dI) vwCl [(aR, .inr (2, [.null, .null, .null, .null, .null, .null, .null, .int 0, .int 0]))] s.heap := hP
  have hl := lv_entry ([.ref aR, .int x, .int y, .int z]) (n := 5) (Nat.le_of_ble_eq_true rfl)
  rw [lg_entry_eq]
  generalize (lg_sl ([.ref aR, .int x, .int y, .int z]) ++ List.replicate (5 - (lg_sl ([.ref aR, .int x, .int y, .int z])).length) Slot.unset).toArray = ls at hl ⊢
  have hl : lv_has ls 5 [(0, .ref aR), (1, .int x), (2, .int y), (3, .int z)] := hl
  refine lv_aload_n hx hb d_R_init_0 rfl (lv_at hl 0 rfl) ?_
  refine W.objInit hx hb hown (ht_ hts mw44) (ht_ hts mw45) (ht_ hts mw46) rfl (by rw [hml]; exact hl.1) rfl d_R_init_1 (Nat.le_of_ble_eq_true rfl) (Nat.le_of_ble_eq_true rfl) ?_
  refine W.eq (g2 := F0 m 4 ls []) rfl ?_
  refine lv_aload_n hx hb d_R_init_4 rfl (lv_at hl 0 rfl) ?_
  refine lv_bipush (v := 6) hx hb d_R_init_5 (by decide) ?_
  refine nw_i (N' := 6) hx hb (ht_ hts mw60) hM hP hD hS hA (by decide) (by decide) (by decide) (Nat.le_of_ble_eq_true rfl) (Nat.le_of_ble_eq_true rfl) d_R_init_7 (fun q_1 H hP hD hS => ?_)
  have hP : va_P (dC, dI) vwCl [(aR, .inr (2, [.null, .null, .null, .null, .null, .null, .null, .int 0, .int 0])), (q_1, .inl (cI, 6, .inl (fun _ => 0)))] H := hP
  have hD : va_D A [(aR, .inr (2, [.null, .null, .null, .null, .null, .null, .null, .int 0, .int 0])), (q_1, .inl (cI, 6, .inl (fun _ => 0)))] := hD
  refine W.widen (k := 1) (n := 6) (Nat.le_of_ble_eq_true rfl) (Nat.le_of_ble_eq_true rfl) ?_
  refine va_putF (D := (dC, dI)) (ci := 2) (v := .ref q_1) (ty := .array .int) (C := "RoomEchoes") (T := FT_R) (N := 9) hx hb hts (hi_ in_R) ty_R tyo_R nm_R hown hK hP hD hS 0 rfl rfl 3 (by decide) (ht_ hts mw99) (fun _ h9 => h9) rfl hin rfl (by decide +kernel) rfl rfl (Nat.le_of_ble_eq_true rfl) d_R_init_9 (fun H locs hP hD hS => ?_)
  have hP : va_P (dC, dI) vwCl [(aR, .inr (2, [.null, .null, .null, .ref q_1, .null, .null, .null, .int 0, .int 0])), (q_1, .inl (cI, 6, .inl (fun _ => 0)))] H := hP
  have hD : va_D A [(aR, .inr (2, [.null, .null, .null, .ref q_1, .null, .null, .null, .int 0, .int 0])), (q_1, .inl (cI, 6, .inl (fun _ => 0)))] := hD
  refine lv_aload_n hx hb d_R_init_12 rfl (lv_at hl 0 rfl) ?_
  refine va_new (ci := 1) (fs := [.null, .int 0]) (C := "RoomEchoes$Frontier") (T := FT_F) (N := 2) hx hb hts (hi_ in_F) ty_F tyo_F hown (ht_ hts mw47) (ht_ hts mw48) (ht_ hts mw31) hK hP hD hS hA rfl df_F (Nat.le_of_ble_eq_true rfl) (Nat.le_of_ble_eq_true rfl) d_R_init_13 (fun q_2 H hP hD hS => ?_)
  have hP : va_P (dC, dI) vwCl [(aR, .inr (2, [.null, .null, .null, .ref q_1, .null, .null, .null, .int 0, .int 0])), (q_1, .inl (cI, 6, .inl (fun _ => 0))), (q_2, .inr (1, [.null, .int 0]))] H := hP
  have hD : va_D A [(aR, .inr (2, [.null, .null, .null, .ref q_1, .null, .null, .null, .int 0, .int 0])), (q_1, .inl (cI, 6, .inl (fun _ => 0))), (q_2, .inr (1, [.null, .int 0]))] := hD
  refine W.widen (k := 2) (n := 8) (Nat.le_of_ble_eq_true rfl) (Nat.le_of_ble_eq_true rfl) ?_
  refine lv_dup hx hb d_R_init_16 rfl ?_
  have hPc := hP.sub (ws' := [(q_2, .inr (1, [.null, .int 0]))]) [2] rfl
  have hDc := hD.sub (ws' := [(q_2, .inr (1, [.null, .int 0]))]) [2] (by decide) rfl
  refine wx_cv (wr := [(aR, .inr (2, [.null, .null, .null, .ref q_1, .null, .null, .null, .int 0, .int 0])), (q_1, .inl (cI, 6, .inl (fun _ => 0)))]) (w1 := fun (u : (Nat)) => [(q_2, .inr (1, [.ref u, .int 0])), (u, .inl (cL, 1001, .inr (.inl (fun _ => 0))))]) hP hD hS hA [2] [0, 1] rfl rfl (by decide) (by decide) (va_runIN (As := []) (rest := [.ref q_2, .ref aR]) ⟨hx, hb, hml, hown, hts⟩ (c_F_init l dC dI cI cL q_2 _) ⟨va_cnB 0 hts (gi_0 mw51) rfl rfl rfl hM.2.1 (ht_ hts mw31) (by decide +kernel) ⟨Nat.le_of_ble_eq_true rfl, Nat.le_of_ble_eq_true rfl⟩, rfl, ht_ hts mw50⟩ (wr_S hM hPc hDc) rfl rfl hl.1 rfl (lv_room (Nat.le_of_ble_eq_true rfl)) d_R_init_17 ⟨Nat.le_of_ble_eq_true rfl, Nat.le_of_ble_eq_true rfl⟩) (fun u H locs hu_4 hP hD hS => ?_)
  obtain ⟨aH_3, rfl⟩ : ∃ z, z = u := ⟨_, rfl⟩
  have hu_4 : True := hu_4
  have hP := hP.sub (ws' := [(aR, .inr (2, [.null, .null, .null, .ref q_1, .null, .null, .null, .int 0, .int 0])), (q_1, .inl (cI, 6, .inl (fun _ => 0))), (q_2, .inr (1, [.ref aH_3, .int 0])), (aH_3, .inl (cL, 1001, .inr (.inl (fun _ => 0))))]) [0, 1, 2, 3] rfl
  have hD := hD.sub (ws' := [(aR, .inr (2, [.null, .null, .null, .ref q_1, .null, .null, .null, .int 0, .int 0])), (q_1, .inl (cI, 6, .inl (fun _ => 0))), (q_2, .inr (1, [.ref aH_3, .int 0])), (aH_3, .inl (cL, 1001, .inr (.inl (fun _ => 0))))]) [0, 1, 2, 3] (by decide) rfl
  refine W.widen (k := 3) (n := 1009) (Nat.le_of_ble_eq_true rfl) (Nat.le_of_ble_eq_true rfl) ?_
  refine va_putF (D := (dC, dI)) (ci := 2) (v := .ref q_2) (ty := .object "RoomEchoes$Frontier") (C := "RoomEchoes") (T := FT_R) (N := 9) hx hb hts (hi_ in_R) ty_R tyo_R nm_R hown hK hP hD hS 0 rfl rfl 4 (by decide) (ht_ hts mw100) (fun _ h9 => h9) rfl hin rfl (by decide +kernel) rfl rfl (Nat.le_of_ble_eq_true rfl) d_R_init_20 (fun H locs hP hD hS => ?_)
  have hP : va_P (dC, dI) vwCl [(aR, .inr (2, [.null, .null, .null, .ref q_1, .ref q_2, .null, .null, .int 0, .int 0])), (q_1, .inl (cI, 6, .inl (fun _ => 0))), (q_2, .inr (1, [.ref aH_3, .int 0])), (aH_3, .inl (cL, 1001, .inr (.inl (fun _ => 0))))] H := hP
  have hD : va_D A [(aR, .inr (2, [.null, .null, .null, .ref q_1, .ref q_2, .null, .null, .int 0, .int 0])), (q_1, .inl (cI, 6, .inl (fun _ => 0))), (q_2, .inr (1, [.ref aH_3, .int 0])), (aH_3, .inl (cL, 1001, .inr (.inl (fun _ => 0))))] := hD
  refine lv_aload_n hx hb d_R_init_23 rfl (lv_at hl 0 rfl) ?_
  refine lv_sipush (v := 500) hx hb d_R_init_24 (by decide) ?_
  refine nw_l (N' := 500) hx hb (ht_ hts mw61) hM hP hD hS hA (by decide) (by decide) (by decide) (Nat.le_of_ble_eq_true rfl) (Nat.le_of_ble_eq_true rfl) d_R_init_27 (fun q_5 H hP hD hS => ?_)
  have hP : va_P (dC, dI) vwCl [(aR, .inr (2, [.null, .null, .null, .ref q_1, .ref q_2, .null, .null, .int 0, .int 0])), (q_1, .inl (cI, 6, .inl (fun _ => 0))), (q_2, .inr (1, [.ref aH_3, .int 0])), (aH_3, .inl (cL, 1001, .inr (.inl (fun _ => 0)))), (q_5, .inl (cL, 500, .inr (.inl (fun _ => 0))))] H := hP
  have hD : va_D A [(aR, .inr (2, [.null, .null, .null, .ref q_1, .ref q_2, .null, .null, .int 0, .int 0])), (q_1, .inl (cI, 6, .inl (fun _ => 0))), (q_2, .inr (1, [.ref aH_3, .int 0])), (aH_3, .inl (cL, 1001, .inr (.inl (fun _ => 0)))), (q_5, .inl (cL, 500, .inr (.inl (fun _ => 0))))] := hD
  refine W.widen (k := 4) (n := 1509) (Nat.le_of_ble_eq_true rfl) (Nat.le_of_ble_eq_true rfl) ?_
  refine va_putF (D := (dC, dI)) (ci := 2) (v := .ref q_5) (ty := .array .long) (C := "RoomEchoes") (T := FT_R) (N := 9) hx hb hts (hi_ in_R) ty_R tyo_R nm_R hown hK hP hD hS 0 rfl rfl 5 (by decide) (ht_ hts mw101) (fun _ h9 => h9) rfl hin rfl (by decide +kernel) rfl rfl (Nat.le_of_ble_eq_true rfl) d_R_init_29 (fun H locs hP hD hS => ?_)
  have hP : va_P (dC, dI) vwCl [(aR, .inr (2, [.null, .null, .null, .ref q_1, .ref q_2, .ref q_5, .null, .int 0, .int 0])), (q_1, .inl (cI, 6, .inl (fun _ => 0))), (q_2, .inr (1, [.ref aH_3, .int 0])), (aH_3, .inl (cL, 1001, .inr (.inl (fun _ => 0)))), (q_5, .inl (cL, 500, .inr (.inl (fun _ => 0))))] H := hP
  have hD : va_D A [(aR, .inr (2, [.null, .null, .null, .ref q_1, .ref q_2, .ref q_5, .null, .int 0, .int 0])), (q_1, .inl (cI, 6, .inl (fun _ => 0))), (q_2, .inr (1, [.ref aH_3, .int 0])), (aH_3, .inl (cL, 1001, .inr (.inl (fun _ => 0)))), (q_5, .inl (cL, 500, .inr (.inl (fun _ => 0))))] := hD
  refine lv_aload_n hx hb d_R_init_32 rfl (lv_at hl 0 rfl) ?_
  refine lv_sipush (v := 500) hx hb d_R_init_33 (by decide) ?_
  refine nw_l (N' := 500) hx hb (ht_ hts mw61) hM hP hD hS hA (by decide) (by decide) (by decide) (Nat.le_of_ble_eq_true rfl) (Nat.le_of_ble_eq_true rfl) d_R_init_36 (fun q_6 H hP hD hS => ?_)
  have hP : va_P (dC, dI) vwCl [(aR, .inr (2, [.null, .null, .null, .ref q_1, .ref q_2, .ref q_5, .null, .int 0, .int 0])), (q_1, .inl (cI, 6, .inl (fun _ => 0))), (q_2, .inr (1, [.ref aH_3, .int 0])), (aH_3, .inl (cL, 1001, .inr (.inl (fun _ => 0)))), (q_5, .inl (cL, 500, .inr (.inl (fun _ => 0)))), (q_6, .inl (cL, 500, .inr (.inl (fun _ => 0))))] H := hP
  have hD : va_D A [(aR, .inr (2, [.null, .null, .null, .ref q_1, .ref q_2, .ref q_5, .null, .int 0, .int 0])), (q_1, .inl (cI, 6, .inl (fun _ => 0))), (q_2, .inr (1, [.ref aH_3, .int 0])), (aH_3, .inl (cL, 1001, .inr (.inl (fun _ => 0)))), (q_5, .inl (cL, 500, .inr (.inl (fun _ => 0)))), (q_6, .inl (cL, 500, .inr (.inl (fun _ => 0))))] := hD
  refine W.widen (k := 5) (n := 2009) (Nat.le_of_ble_eq_true rfl) (Nat.le_of_ble_eq_true rfl) ?_
  refine va_putF (D := (dC, dI)) (ci := 2) (v := .ref q_6) (ty := .array .long) (C := "RoomEchoes") (T := FT_R) (N := 9) hx hb hts (hi_ in_R) ty_R tyo_R nm_R hown hK hP hD hS 0 rfl rfl 6 (by decide) (ht_ hts mw102) (fun _ h9 => h9) rfl hin rfl (by decide +kernel) rfl rfl (Nat.le_of_ble_eq_true rfl) d_R_init_38 (fun H locs hP hD hS => ?_)
  have hP : va_P (dC, dI) vwCl [(aR, .inr (2, [.null, .null, .null, .ref q_1, .ref q_2, .ref q_5, .ref q_6, .int 0, .int 0])), (q_1, .inl (cI, 6, .inl (fun _ => 0))), (q_2, .inr (1, [.ref aH_3, .int 0])), (aH_3, .inl (cL, 1001, .inr (.inl (fun _ => 0)))), (q_5, .inl (cL, 500, .inr (.inl (fun _ => 0)))), (q_6, .inl (cL, 500, .inr (.inl (fun _ => 0))))] H := hP
  have hD : va_D A [(aR, .inr (2, [.null, .null, .null, .ref q_1, .ref q_2, .ref q_5, .ref q_6, .int 0, .int 0])), (q_1, .inl (cI, 6, .inl (fun _ => 0))), (q_2, .inr (1, [.ref aH_3, .int 0])), (aH_3, .inl (cL, 1001, .inr (.inl (fun _ => 0)))), (q_5, .inl (cL, 500, .inr (.inl (fun _ => 0)))), (q_6, .inl (cL, 500, .inr (.inl (fun _ => 0))))] := hD
  refine lv_aload_n hx hb d_R_init_41 rfl (lv_at hl 0 rfl) ?_
  refine va_new (ci := 0) (fs := [.int 0, .int 0, .int 0, .null, .null]) (C := "RoomEchoes$Axis") (T := FT_A) (N := 5) hx hb hts (hi_ in_A) ty_A tyo_A hown (ht_ hts mw62) (ht_ hts mw63) (ht_ hts mw32) hK hP hD hS hA rfl df_A (Nat.le_of_ble_eq_true rfl) (Nat.le_of_ble_eq_true rfl) d_R_init_42 (fun q_7 H hP hD hS => ?_)
  have hP : va_P (dC, dI) vwCl [(aR, .inr (2, [.null, .null, .null, .ref q_1, .ref q_2, .ref q_5, .ref q_6, .int 0, .int 0])), (q_1, .inl (cI, 6, .inl (fun _ => 0))), (q_2, .inr (1, [.ref aH_3, .int 0])), (aH_3, .inl (cL, 1001, .inr (.inl (fun _ => 0)))), (q_5, .inl (cL, 500, .inr (.inl (fun _ => 0)))), (q_6, .inl (cL, 500, .inr (.inl (fun _ => 0)))), (q_7, .inr (0, [.int 0, .int 0, .int 0, .null, .null]))] H := hP
  have hD : va_D A [(aR, .inr (2, [.null, .null, .null, .ref q_1, .ref q_2, .ref q_5, .ref q_6, .int 0, .int 0])), (q_1, .inl (cI, 6, .inl (fun _ => 0))), (q_2, .inr (1, [.ref aH_3, .int 0])), (aH_3, .inl (cL, 1001, .inr (.inl (fun _ => 0)))), (q_5, .inl (cL, 500, .inr (.inl (fun _ => 0)))), (q_6, .inl (cL, 500, .inr (.inl (fun _ => 0)))), (q_7, .inr (0, [.int 0, .int 0, .int 0, .null, .null]))] := hD
  refine W.widen (k := 6) (n := 2014) (Nat.le_of_ble_eq_true rfl) (Nat.le_of_ble_eq_true rfl) ?_
  refine lv_dup hx hb d_R_init_45 rfl ?_
  refine lv_iload_n hx hb d_R_init_46 rfl (lv_at hl 1 rfl) ?_
  refine rd_c (va_runS (As := [.int x]) (rest := [.ref q_7, .ref q_7, .ref aR]) ⟨hx, hb, hml, hown, hts⟩ (c_R_sizeWithin l x) (cwS 1 hts (gi_S mw66 mw64 mw65 mw30) rfl rfl rfl (by decide +kernel) ⟨Nat.le_of_ble_eq_true rfl, Nat.le_of_ble_eq_true rfl⟩) st_S rfl rfl hl.1 rfl (lv_room (Nat.le_of_ble_eq_true rfl)) d_R_init_47 ⟨Nat.le_of_ble_eq_true rfl, Nat.le_of_ble_eq_true rfl⟩) ?_
  have hPc := hP.sub (ws' := [(q_7, .inr (0, [.int 0, .int 0, .int 0, .null, .null]))]) [6] rfl
  have hDc := hD.sub (ws' := [(q_7, .inr (0, [.int 0, .int 0, .int 0, .null, .null]))]) [6] (by decide) rfl
  refine wx_cv (wr := [(aR, .inr (2, [.null, .null, .null, .ref q_1, .ref q_2, .ref q_5, .ref q_6, .int 0, .int 0])), (q_1, .inl (cI, 6, .inl (fun _ => 0))), (q_2, .inr (1, [.ref aH_3, .int 0])), (aH_3, .inl (cL, 1001, .inr (.inl (fun _ => 0)))), (q_5, .inl (cL, 500, .inr (.inl (fun _ => 0)))), (q_6, .inl (cL, 500, .inr (.inl (fun _ => 0))))]) (w1 := fun (u : (Nat) × (Nat)) => [(q_7, .inr (0, [.int (j_R_sizeWithin x), .int 0, .int 0, .ref u.1, .ref u.2])), (u.1, .inl (cL, 81, .inr (.inl (fun _ => 0)))), (u.2, .inl (cI, 81, .inl (fun _ => 0)))]) hP hD hS hA [6] [0, 1, 2, 3, 4, 5] rfl rfl (by decide) (by decide) (va_runI (As := [.int (j_R_sizeWithin x)]) (rest := [.ref q_7, .ref aR]) ⟨hx, hb, hml, hown, hts⟩ (c_A_init l dC dI cI cL q_7 (j_R_sizeWithin x) _) (cwI 1 hts (gi_0 mw75) rfl rfl rfl (ht_ hts mw32) (ht_ hts mw73) (ht_ hts mw74) rfl (by decide +kernel) ⟨Nat.le_of_ble_eq_true rfl, Nat.le_of_ble_eq_true rfl⟩) (wr_S hM hPc hDc) rfl rfl hl.1 rfl (lv_room (Nat.le_of_ble_eq_true rfl)) d_R_init_50 ⟨Nat.le_of_ble_eq_true rfl, Nat.le_of_ble_eq_true rfl⟩) (fun u H locs hu_10 hP hD hS => ?_)
  obtain ⟨ar_8, ak_9⟩ := u
  have hu_10 : True := hu_10
  have hP := hP.sub (ws' := [(aR, .inr (2, [.null, .null, .null, .ref q_1, .ref q_2, .ref q_5, .ref q_6, .int 0, .int 0])), (q_1, .inl (cI, 6, .inl (fun _ => 0))), (q_2, .inr (1, [.ref aH_3, .int 0])), (aH_3, .inl (cL, 1001, .inr (.inl (fun _ => 0)))), (q_5, .inl (cL, 500, .inr (.inl (fun _ => 0)))), (q_6, .inl (cL, 500, .inr (.inl (fun _ => 0)))), (q_7, .inr (0, [.int (j_R_sizeWithin x), .int 0, .int 0, .ref ar_8, .ref ak_9])), (ar_8, .inl (cL, 81, .inr (.inl (fun _ => 0)))), (ak_9, .inl (cI, 81, .inl (fun _ => 0)))]) [0, 1, 2, 3, 4, 5, 6, 7, 8] rfl
  have hD := hD.sub (ws' := [(aR, .inr (2, [.null, .null, .null, .ref q_1, .ref q_2, .ref q_5, .ref q_6, .int 0, .int 0])), (q_1, .inl (cI, 6, .inl (fun _ => 0))), (q_2, .inr (1, [.ref aH_3, .int 0])), (aH_3, .inl (cL, 1001, .inr (.inl (fun _ => 0)))), (q_5, .inl (cL, 500, .inr (.inl (fun _ => 0)))), (q_6, .inl (cL, 500, .inr (.inl (fun _ => 0)))), (q_7, .inr (0, [.int (j_R_sizeWithin x), .int 0, .int 0, .ref ar_8, .ref ak_9])), (ar_8, .inl (cL, 81, .inr (.inl (fun _ => 0)))), (ak_9, .inl (cI, 81, .inl (fun _ => 0)))]) [0, 1, 2, 3, 4, 5, 6, 7, 8] (by decide) rfl
  refine W.widen (k := 8) (n := 2176) (Nat.le_of_ble_eq_true rfl) (Nat.le_of_ble_eq_true rfl) ?_
  refine va_putF (D := (dC, dI)) (ci := 2) (v := .ref q_7) (ty := .object "RoomEchoes$Axis") (C := "RoomEchoes") (T := FT_R) (N := 9) hx hb hts (hi_ in_R) ty_R tyo_R nm_R hown hK hP hD hS 0 rfl rfl 0 (by decide) (ht_ hts mw96) (fun _ h9 => h9) rfl hin rfl (by decide +kernel) rfl rfl (Nat.le_of_ble_eq_true rfl) d_R_init_53 (fun H locs hP hD hS => ?_)
  have hP : va_P (dC, dI) vwCl [(aR, .inr (2, [.ref q_7, .null, .null, .ref q_1, .ref q_2, .ref q_5, .ref q_6, .int 0, .int 0])), (q_1, .inl (cI, 6, .inl (fun _ => 0))), (q_2, .inr (1, [.ref aH_3, .int 0])), (aH_3, .inl (cL, 1001, .inr (.inl (fun _ => 0)))), (q_5, .inl (cL, 500, .inr (.inl (fun _ => 0)))), (q_6, .inl (cL, 500, .inr (.inl (fun _ => 0)))), (q_7, .inr (0, [.int (j_R_sizeWithin x), .int 0, .int 0, .ref ar_8, .ref ak_9])), (ar_8, .inl (cL, 81, .inr (.inl (fun _ => 0)))), (ak_9, .inl (cI, 81, .inl (fun _ => 0)))] H := hP
  have hD : va_D A [(aR, .inr (2, [.ref q_7, .null, .null, .ref q_1, .ref q_2, .ref q_5, .ref q_6, .int 0, .int 0])), (q_1, .inl (cI, 6, .inl (fun _ => 0))), (q_2, .inr (1, [.ref aH_3, .int 0])), (aH_3, .inl (cL, 1001, .inr (.inl (fun _ => 0)))), (q_5, .inl (cL, 500, .inr (.inl (fun _ => 0)))), (q_6, .inl (cL, 500, .inr (.inl (fun _ => 0)))), (q_7, .inr (0, [.int (j_R_sizeWithin x), .int 0, .int 0, .ref ar_8, .ref ak_9])), (ar_8, .inl (cL, 81, .inr (.inl (fun _ => 0)))), (ak_9, .inl (cI, 81, .inl (fun _ => 0)))] := hD
  refine lv_aload_n hx hb d_R_init_56 rfl (lv_at hl 0 rfl) ?_
  refine va_new (ci := 0) (fs := [.int 0, .int 0, .int 0, .null, .null]) (C := "RoomEchoes$Axis") (T := FT_A) (N := 5) hx hb hts (hi_ in_A) ty_A tyo_A hown (ht_ hts mw62) (ht_ hts mw63) (ht_ hts mw32) hK hP hD hS hA rfl df_A (Nat.le_of_ble_eq_true rfl) (Nat.le_of_ble_eq_true rfl) d_R_init_57 (fun q_11 H hP hD hS => ?_)
  have hP : va_P (dC, dI) vwCl [(aR, .inr (2, [.ref q_7, .null, .null, .ref q_1, .ref q_2, .ref q_5, .ref q_6, .int 0, .int 0])), (q_1, .inl (cI, 6, .inl (fun _ => 0))), (q_2, .inr (1, [.ref aH_3, .int 0])), (aH_3, .inl (cL, 1001, .inr (.inl (fun _ => 0)))), (q_5, .inl (cL, 500, .inr (.inl (fun _ => 0)))), (q_6, .inl (cL, 500, .inr (.inl (fun _ => 0)))), (q_7, .inr (0, [.int (j_R_sizeWithin x), .int 0, .int 0, .ref ar_8, .ref ak_9])), (ar_8, .inl (cL, 81, .inr (.inl (fun _ => 0)))), (ak_9, .inl (cI, 81, .inl (fun _ => 0))), (q_11, .inr (0, [.int 0, .int 0, .int 0, .null, .null]))] H := hP
  have hD : va_D A [(aR, .inr (2, [.ref q_7, .null, .null, .ref q_1, .ref q_2, .ref q_5, .ref q_6, .int 0, .int 0])), (q_1, .inl (cI, 6, .inl (fun _ => 0))), (q_2, .inr (1, [.ref aH_3, .int 0])), (aH_3, .inl (cL, 1001, .inr (.inl (fun _ => 0)))), (q_5, .inl (cL, 500, .inr (.inl (fun _ => 0)))), (q_6, .inl (cL, 500, .inr (.inl (fun _ => 0)))), (q_7, .inr (0, [.int (j_R_sizeWithin x), .int 0, .int 0, .ref ar_8, .ref ak_9])), (ar_8, .inl (cL, 81, .inr (.inl (fun _ => 0)))), (ak_9, .inl (cI, 81, .inl (fun _ => 0))), (q_11, .inr (0, [.int 0, .int 0, .int 0, .null, .null]))] := hD
  refine W.widen (k := 9) (n := 2181) (Nat.le_of_ble_eq_true rfl) (Nat.le_of_ble_eq_true rfl) ?_
  refine lv_dup hx hb d_R_init_60 rfl ?_
  refine lv_iload_n hx hb d_R_init_61 rfl (lv_at hl 2 rfl) ?_
  refine rd_c (va_runS (As := [.int y]) (rest := [.ref q_11, .ref q_11, .ref aR]) ⟨hx, hb, hml, hown, hts⟩ (c_R_sizeWithin l y) (cwS 1 hts (gi_S mw66 mw64 mw65 mw30) rfl rfl rfl (by decide +kernel) ⟨Nat.le_of_ble_eq_true rfl, Nat.le_of_ble_eq_true rfl⟩) st_S rfl rfl hl.1 rfl (lv_room (Nat.le_of_ble_eq_true rfl)) d_R_init_62 ⟨Nat.le_of_ble_eq_true rfl, Nat.le_of_ble_eq_true rfl⟩) ?_
  have hPc := hP.sub (ws' := [(q_11, .inr (0, [.int 0, .int 0, .int 0, .null, .null]))]) [9] rfl
  have hDc := hD.sub (ws' := [(q_11, .inr (0, [.int 0, .int 0, .int 0, .null, .null]))]) [9] (by decide) rfl
  refine wx_cv (wr := [(aR, .inr (2, [.ref q_7, .null, .null, .ref q_1, .ref q_2, .ref q_5, .ref q_6, .int 0, .int 0])), (q_1, .inl (cI, 6, .inl (fun _ => 0))), (q_2, .inr (1, [.ref aH_3, .int 0])), (aH_3, .inl (cL, 1001, .inr (.inl (fun _ => 0)))), (q_5, .inl (cL, 500, .inr (.inl (fun _ => 0)))), (q_6, .inl (cL, 500, .inr (.inl (fun _ => 0)))), (q_7, .inr (0, [.int (j_R_sizeWithin x), .int 0, .int 0, .ref ar_8, .ref ak_9])), (ar_8, .inl (cL, 81, .inr (.inl (fun _ => 0)))), (ak_9, .inl (cI, 81, .inl (fun _ => 0)))]) (w1 := fun (u : (Nat) × (Nat)) => [(q_11, .inr (0, [.int (j_R_sizeWithin y), .int 0, .int 0, .ref u.1, .ref u.2])), (u.1, .inl (cL, 81, .inr (.inl (fun _ => 0)))), (u.2, .inl (cI, 81, .inl (fun _ => 0)))]) hP hD hS hA [9] [0, 1, 2, 3, 4, 5, 6, 7, 8] rfl rfl (by decide) (by decide) (va_runI (As := [.int (j_R_sizeWithin y)]) (rest := [.ref q_11, .ref aR]) ⟨hx, hb, hml, hown, hts⟩ (c_A_init l dC dI cI cL q_11 (j_R_sizeWithin y) _) (cwI 1 hts (gi_0 mw75) rfl rfl rfl (ht_ hts mw32) (ht_ hts mw73) (ht_ hts mw74) rfl (by decide +kernel) ⟨Nat.le_of_ble_eq_true rfl, Nat.le_of_ble_eq_true rfl⟩) (wr_S hM hPc hDc) rfl rfl hl.1 rfl (lv_room (Nat.le_of_ble_eq_true rfl)) d_R_init_65 ⟨Nat.le_of_ble_eq_true rfl, Nat.le_of_ble_eq_true rfl⟩) (fun u H locs hu_14 hP hD hS => ?_)
  obtain ⟨ar_12, ak_13⟩ := u
  have hu_14 : True := hu_14
  have hP := hP.sub (ws' := [(aR, .inr (2, [.ref q_7, .null, .null, .ref q_1, .ref q_2, .ref q_5, .ref q_6, .int 0, .int 0])), (q_1, .inl (cI, 6, .inl (fun _ => 0))), (q_2, .inr (1, [.ref aH_3, .int 0])), (aH_3, .inl (cL, 1001, .inr (.inl (fun _ => 0)))), (q_5, .inl (cL, 500, .inr (.inl (fun _ => 0)))), (q_6, .inl (cL, 500, .inr (.inl (fun _ => 0)))), (q_7, .inr (0, [.int (j_R_sizeWithin x), .int 0, .int 0, .ref ar_8, .ref ak_9])), (ar_8, .inl (cL, 81, .inr (.inl (fun _ => 0)))), (ak_9, .inl (cI, 81, .inl (fun _ => 0))), (q_11, .inr (0, [.int (j_R_sizeWithin y), .int 0, .int 0, .ref ar_12, .ref ak_13])), (ar_12, .inl (cL, 81, .inr (.inl (fun _ => 0)))), (ak_13, .inl (cI, 81, .inl (fun _ => 0)))]) [0, 1, 2, 3, 4, 5, 6, 7, 8, 9, 10, 11] rfl
  have hD := hD.sub (ws' := [(aR, .inr (2, [.ref q_7, .null, .null, .ref q_1, .ref q_2, .ref q_5, .ref q_6, .int 0, .int 0])), (q_1, .inl (cI, 6, .inl (fun _ => 0))), (q_2, .inr (1, [.ref aH_3, .int 0])), (aH_3, .inl (cL, 1001, .inr (.inl (fun _ => 0)))), (q_5, .inl (cL, 500, .inr (.inl (fun _ => 0)))), (q_6, .inl (cL, 500, .inr (.inl (fun _ => 0)))), (q_7, .inr (0, [.int (j_R_sizeWithin x), .int 0, .int 0, .ref ar_8, .ref ak_9])), (ar_8, .inl (cL, 81, .inr (.inl (fun _ => 0)))), (ak_9, .inl (cI, 81, .inl (fun _ => 0))), (q_11, .inr (0, [.int (j_R_sizeWithin y), .int 0, .int 0, .ref ar_12, .ref ak_13])), (ar_12, .inl (cL, 81, .inr (.inl (fun _ => 0)))), (ak_13, .inl (cI, 81, .inl (fun _ => 0)))]) [0, 1, 2, 3, 4, 5, 6, 7, 8, 9, 10, 11] (by decide) rfl
  refine W.widen (k := 11) (n := 2343) (Nat.le_of_ble_eq_true rfl) (Nat.le_of_ble_eq_true rfl) ?_
  refine va_putF (D := (dC, dI)) (ci := 2) (v := .ref q_11) (ty := .object "RoomEchoes$Axis") (C := "RoomEchoes") (T := FT_R) (N := 9) hx hb hts (hi_ in_R) ty_R tyo_R nm_R hown hK hP hD hS 0 rfl rfl 1 (by decide) (ht_ hts mw97) (fun _ h9 => h9) rfl hin rfl (by decide +kernel) rfl rfl (Nat.le_of_ble_eq_true rfl) d_R_init_68 (fun H locs hP hD hS => ?_)
  have hP : va_P (dC, dI) vwCl [(aR, .inr (2, [.ref q_7, .ref q_11, .null, .ref q_1, .ref q_2, .ref q_5, .ref q_6, .int 0, .int 0])), (q_1, .inl (cI, 6, .inl (fun _ => 0))), (q_2, .inr (1, [.ref aH_3, .int 0])), (aH_3, .inl (cL, 1001, .inr (.inl (fun _ => 0)))), (q_5, .inl (cL, 500, .inr (.inl (fun _ => 0)))), (q_6, .inl (cL, 500, .inr (.inl (fun _ => 0)))), (q_7, .inr (0, [.int (j_R_sizeWithin x), .int 0, .int 0, .ref ar_8, .ref ak_9])), (ar_8, .inl (cL, 81, .inr (.inl (fun _ => 0)))), (ak_9, .inl (cI, 81, .inl (fun _ => 0))), (q_11, .inr (0, [.int (j_R_sizeWithin y), .int 0, .int 0, .ref ar_12, .ref ak_13])), (ar_12, .inl (cL, 81, .inr (.inl (fun _ => 0)))), (ak_13, .inl (cI, 81, .inl (fun _ => 0)))] H := hP
  have hD : va_D A [(aR, .inr (2, [.ref q_7, .ref q_11, .null, .ref q_1, .ref q_2, .ref q_5, .ref q_6, .int 0, .int 0])), (q_1, .inl (cI, 6, .inl (fun _ => 0))), (q_2, .inr (1, [.ref aH_3, .int 0])), (aH_3, .inl (cL, 1001, .inr (.inl (fun _ => 0)))), (q_5, .inl (cL, 500, .inr (.inl (fun _ => 0)))), (q_6, .inl (cL, 500, .inr (.inl (fun _ => 0)))), (q_7, .inr (0, [.int (j_R_sizeWithin x), .int 0, .int 0, .ref ar_8, .ref ak_9])), (ar_8, .inl (cL, 81, .inr (.inl (fun _ => 0)))), (ak_9, .inl (cI, 81, .inl (fun _ => 0))), (q_11, .inr (0, [.int (j_R_sizeWithin y), .int 0, .int 0, .ref ar_12, .ref ak_13])), (ar_12, .inl (cL, 81, .inr (.inl (fun _ => 0)))), (ak_13, .inl (cI, 81, .inl (fun _ => 0)))] := hD
  refine lv_aload_n hx hb d_R_init_71 rfl (lv_at hl 0 rfl) ?_
  refine va_new (ci := 0) (fs := [.int 0, .int 0, .int 0, .null, .null]) (C := "RoomEchoes$Axis") (T := FT_A) (N := 5) hx hb hts (hi_ in_A) ty_A tyo_A hown (ht_ hts mw62) (ht_ hts mw63) (ht_ hts mw32) hK hP hD hS hA rfl df_A (Nat.le_of_ble_eq_true rfl) (Nat.le_of_ble_eq_true rfl) d_R_init_72 (fun q_15 H hP hD hS => ?_)
  have hP : va_P (dC, dI) vwCl [(aR, .inr (2, [.ref q_7, .ref q_11, .null, .ref q_1, .ref q_2, .ref q_5, .ref q_6, .int 0, .int 0])), (q_1, .inl (cI, 6, .inl (fun _ => 0))), (q_2, .inr (1, [.ref aH_3, .int 0])), (aH_3, .inl (cL, 1001, .inr (.inl (fun _ => 0)))), (q_5, .inl (cL, 500, .inr (.inl (fun _ => 0)))), (q_6, .inl (cL, 500, .inr (.inl (fun _ => 0)))), (q_7, .inr (0, [.int (j_R_sizeWithin x), .int 0, .int 0, .ref ar_8, .ref ak_9])), (ar_8, .inl (cL, 81, .inr (.inl (fun _ => 0)))), (ak_9, .inl (cI, 81, .inl (fun _ => 0))), (q_11, .inr (0, [.int (j_R_sizeWithin y), .int 0, .int 0, .ref ar_12, .ref ak_13])), (ar_12, .inl (cL, 81, .inr (.inl (fun _ => 0)))), (ak_13, .inl (cI, 81, .inl (fun _ => 0))), (q_15, .inr (0, [.int 0, .int 0, .int 0, .null, .null]))] H := hP
  have hD : va_D A [(aR, .inr (2, [.ref q_7, .ref q_11, .null, .ref q_1, .ref q_2, .ref q_5, .ref q_6, .int 0, .int 0])), (q_1, .inl (cI, 6, .inl (fun _ => 0))), (q_2, .inr (1, [.ref aH_3, .int 0])), (aH_3, .inl (cL, 1001, .inr (.inl (fun _ => 0)))), (q_5, .inl (cL, 500, .inr (.inl (fun _ => 0)))), (q_6, .inl (cL, 500, .inr (.inl (fun _ => 0)))), (q_7, .inr (0, [.int (j_R_sizeWithin x), .int 0, .int 0, .ref ar_8, .ref ak_9])), (ar_8, .inl (cL, 81, .inr (.inl (fun _ => 0)))), (ak_9, .inl (cI, 81, .inl (fun _ => 0))), (q_11, .inr (0, [.int (j_R_sizeWithin y), .int 0, .int 0, .ref ar_12, .ref ak_13])), (ar_12, .inl (cL, 81, .inr (.inl (fun _ => 0)))), (ak_13, .inl (cI, 81, .inl (fun _ => 0))), (q_15, .inr (0, [.int 0, .int 0, .int 0, .null, .null]))] := hD
  refine W.widen (k := 12) (n := 2348) (Nat.le_of_ble_eq_true rfl) (Nat.le_of_ble_eq_true rfl) ?_
  refine lv_dup hx hb d_R_init_75 rfl ?_
  refine lv_iload_n hx hb d_R_init_76 rfl (lv_at hl 3 rfl) ?_
  refine rd_c (va_runS (As := [.int z]) (rest := [.ref q_15, .ref q_15, .ref aR]) ⟨hx, hb, hml, hown, hts⟩ (c_R_sizeWithin l z) (cwS 1 hts (gi_S mw66 mw64 mw65 mw30) rfl rfl rfl (by decide +kernel) ⟨Nat.le_of_ble_eq_true rfl, Nat.le_of_ble_eq_true rfl⟩) st_S rfl rfl hl.1 rfl (lv_room (Nat.le_of_ble_eq_true rfl)) d_R_init_77 ⟨Nat.le_of_ble_eq_true rfl, Nat.le_of_ble_eq_true rfl⟩) ?_
  have hPc := hP.sub (ws' := [(q_15, .inr (0, [.int 0, .int 0, .int 0, .null, .null]))]) [12] rfl
  have hDc := hD.sub (ws' := [(q_15, .inr (0, [.int 0, .int 0, .int 0, .null, .null]))]) [12] (by decide) rfl
  refine wx_cv (wr := [(aR, .inr (2, [.ref q_7, .ref q_11, .null, .ref q_1, .ref q_2, .ref q_5, .ref q_6, .int 0, .int 0])), (q_1, .inl (cI, 6, .inl (fun _ => 0))), (q_2, .inr (1, [.ref aH_3, .int 0])), (aH_3, .inl (cL, 1001, .inr (.inl (fun _ => 0)))), (q_5, .inl (cL, 500, .inr (.inl (fun _ => 0)))), (q_6, .inl (cL, 500, .inr (.inl (fun _ => 0)))), (q_7, .inr (0, [.int (j_R_sizeWithin x), .int 0, .int 0, .ref ar_8, .ref ak_9])), (ar_8, .inl (cL, 81, .inr (.inl (fun _ => 0)))), (ak_9, .inl (cI, 81, .inl (fun _ => 0))), (q_11, .inr (0, [.int (j_R_sizeWithin y), .int 0, .int 0, .ref ar_12, .ref ak_13])), (ar_12, .inl (cL, 81, .inr (.inl (fun _ => 0)))), (ak_13, .inl (cI, 81, .inl (fun _ => 0)))]) (w1 := fun (u : (Nat) × (Nat)) => [(q_15, .inr (0, [.int (j_R_sizeWithin z), .int 0, .int 0, .ref u.1, .ref u.2])), (u.1, .inl (cL, 81, .inr (.inl (fun _ => 0)))), (u.2, .inl (cI, 81, .inl (fun _ => 0)))]) hP hD hS hA [12] [0, 1, 2, 3, 4, 5, 6, 7, 8, 9, 10, 11] rfl rfl (by decide) (by decide) (va_runI (As := [.int (j_R_sizeWithin z)]) (rest := [.ref q_15, .ref aR]) ⟨hx, hb, hml, hown, hts⟩ (c_A_init l dC dI cI cL q_15 (j_R_sizeWithin z) _) (cwI 1 hts (gi_0 mw75) rfl rfl rfl (ht_ hts mw32) (ht_ hts mw73) (ht_ hts mw74) rfl (by decide +kernel) ⟨Nat.le_of_ble_eq_true rfl, Nat.le_of_ble_eq_true rfl⟩) (wr_S hM hPc hDc) rfl rfl hl.1 rfl (lv_room (Nat.le_of_ble_eq_true rfl)) d_R_init_80 ⟨Nat.le_of_ble_eq_true rfl, Nat.le_of_ble_eq_true rfl⟩) (fun u H locs hu_18 hP hD hS => ?_)
  obtain ⟨ar_16, ak_17⟩ := u
  have hu_18 : True := hu_18
  have hP := hP.sub (ws' := [(aR, .inr (2, [.ref q_7, .ref q_11, .null, .ref q_1, .ref q_2, .ref q_5, .ref q_6, .int 0, .int 0])), (q_1, .inl (cI, 6, .inl (fun _ => 0))), (q_2, .inr (1, [.ref aH_3, .int 0])), (aH_3, .inl (cL, 1001, .inr (.inl (fun _ => 0)))), (q_5, .inl (cL, 500, .inr (.inl (fun _ => 0)))), (q_6, .inl (cL, 500, .inr (.inl (fun _ => 0)))), (q_7, .inr (0, [.int (j_R_sizeWithin x), .int 0, .int 0, .ref ar_8, .ref ak_9])), (ar_8, .inl (cL, 81, .inr (.inl (fun _ => 0)))), (ak_9, .inl (cI, 81, .inl (fun _ => 0))), (q_11, .inr (0, [.int (j_R_sizeWithin y), .int 0, .int 0, .ref ar_12, .ref ak_13])), (ar_12, .inl (cL, 81, .inr (.inl (fun _ => 0)))), (ak_13, .inl (cI, 81, .inl (fun _ => 0))), (q_15, .inr (0, [.int (j_R_sizeWithin z), .int 0, .int 0, .ref ar_16, .ref ak_17])), (ar_16, .inl (cL, 81, .inr (.inl (fun _ => 0)))), (ak_17, .inl (cI, 81, .inl (fun _ => 0)))]) [0, 1, 2, 3, 4, 5, 6, 7, 8, 9, 10, 11, 12, 13, 14] rfl
  have hD := hD.sub (ws' := [(aR, .inr (2, [.ref q_7, .ref q_11, .null, .ref q_1, .ref q_2, .ref q_5, .ref q_6, .int 0, .int 0])), (q_1, .inl (cI, 6, .inl (fun _ => 0))), (q_2, .inr (1, [.ref aH_3, .int 0])), (aH_3, .inl (cL, 1001, .inr (.inl (fun _ => 0)))), (q_5, .inl (cL, 500, .inr (.inl (fun _ => 0)))), (q_6, .inl (cL, 500, .inr (.inl (fun _ => 0)))), (q_7, .inr (0, [.int (j_R_sizeWithin x), .int 0, .int 0, .ref ar_8, .ref ak_9])), (ar_8, .inl (cL, 81, .inr (.inl (fun _ => 0)))), (ak_9, .inl (cI, 81, .inl (fun _ => 0))), (q_11, .inr (0, [.int (j_R_sizeWithin y), .int 0, .int 0, .ref ar_12, .ref ak_13])), (ar_12, .inl (cL, 81, .inr (.inl (fun _ => 0)))), (ak_13, .inl (cI, 81, .inl (fun _ => 0))), (q_15, .inr (0, [.int (j_R_sizeWithin z), .int 0, .int 0, .ref ar_16, .ref ak_17])), (ar_16, .inl (cL, 81, .inr (.inl (fun _ => 0)))), (ak_17, .inl (cI, 81, .inl (fun _ => 0)))]) [0, 1, 2, 3, 4, 5, 6, 7, 8, 9, 10, 11, 12, 13, 14] (by decide) rfl
  refine W.widen (k := 14) (n := 2510) (Nat.le_of_ble_eq_true rfl) (Nat.le_of_ble_eq_true rfl) ?_
  refine va_putF (D := (dC, dI)) (ci := 2) (v := .ref q_15) (ty := .object "RoomEchoes$Axis") (C := "RoomEchoes") (T := FT_R) (N := 9) hx hb hts (hi_ in_R) ty_R tyo_R nm_R hown hK hP hD hS 0 rfl rfl 2 (by decide) (ht_ hts mw98) (fun _ h9 => h9) rfl hin rfl (by decide +kernel) rfl rfl (Nat.le_of_ble_eq_true rfl) d_R_init_83 (fun H locs hP hD hS => ?_)
  have hP : va_P (dC, dI) vwCl [(aR, .inr (2, [.ref q_7, .ref q_11, .ref q_15, .ref q_1, .ref q_2, .ref q_5, .ref q_6, .int 0, .int 0])), (q_1, .inl (cI, 6, .inl (fun _ => 0))), (q_2, .inr (1, [.ref aH_3, .int 0])), (aH_3, .inl (cL, 1001, .inr (.inl (fun _ => 0)))), (q_5, .inl (cL, 500, .inr (.inl (fun _ => 0)))), (q_6, .inl (cL, 500, .inr (.inl (fun _ => 0)))), (q_7, .inr (0, [.int (j_R_sizeWithin x), .int 0, .int 0, .ref ar_8, .ref ak_9])), (ar_8, .inl (cL, 81, .inr (.inl (fun _ => 0)))), (ak_9, .inl (cI, 81, .inl (fun _ => 0))), (q_11, .inr (0, [.int (j_R_sizeWithin y), .int 0, .int 0, .ref ar_12, .ref ak_13])), (ar_12, .inl (cL, 81, .inr (.inl (fun _ => 0)))), (ak_13, .inl (cI, 81, .inl (fun _ => 0))), (q_15, .inr (0, [.int (j_R_sizeWithin z), .int 0, .int 0, .ref ar_16, .ref ak_17])), (ar_16, .inl (cL, 81, .inr (.inl (fun _ => 0)))), (ak_17, .inl (cI, 81, .inl (fun _ => 0)))] H := hP
  have hD : va_D A [(aR, .inr (2, [.ref q_7, .ref q_11, .ref q_15, .ref q_1, .ref q_2, .ref q_5, .ref q_6, .int 0, .int 0])), (q_1, .inl (cI, 6, .inl (fun _ => 0))), (q_2, .inr (1, [.ref aH_3, .int 0])), (aH_3, .inl (cL, 1001, .inr (.inl (fun _ => 0)))), (q_5, .inl (cL, 500, .inr (.inl (fun _ => 0)))), (q_6, .inl (cL, 500, .inr (.inl (fun _ => 0)))), (q_7, .inr (0, [.int (j_R_sizeWithin x), .int 0, .int 0, .ref ar_8, .ref ak_9])), (ar_8, .inl (cL, 81, .inr (.inl (fun _ => 0)))), (ak_9, .inl (cI, 81, .inl (fun _ => 0))), (q_11, .inr (0, [.int (j_R_sizeWithin y), .int 0, .int 0, .ref ar_12, .ref ak_13])), (ar_12, .inl (cL, 81, .inr (.inl (fun _ => 0)))), (ak_13, .inl (cI, 81, .inl (fun _ => 0))), (q_15, .inr (0, [.int (j_R_sizeWithin z), .int 0, .int 0, .ref ar_16, .ref ak_17])), (ar_16, .inl (cL, 81, .inr (.inl (fun _ => 0)))), (ak_17, .inl (cI, 81, .inl (fun _ => 0)))] := hD
  refine lv_iconst (v := 0) hx hb d_R_init_86 (by decide) ?_
  refine lv_istore (lv' := [(4, .int 0), (0, .ref aR), (1, .int x), (2, .int y), (3, .int z)]) hx hb d_R_init_87 hl (by decide) rfl (fun ls hl => ?_)
  have lp : ∀ (n9 : Nat) (k : Nat) (g : Nat → Int32), 6 < k + n9 → k ≤ 6 → (∀ j, j < k → g j = 900) → ∀ (H : Heap) (locs : List Loc), va_P (dC, dI) vwCl [(aR, .inr (2, [.ref q_7, .ref q_11, .ref q_15, .ref q_1, .ref q_2, .ref q_5, .ref q_6, .int 0, .int 0])), (q_1, .inl (cI, 6, .inl g)), (q_2, .inr (1, [.ref aH_3, .int 0])), (aH_3, .inl (cL, 1001, .inr (.inl (fun _ => 0)))), (q_5, .inl (cL, 500, .inr (.inl (fun _ => 0)))), (q_6, .inl (cL, 500, .inr (.inl (fun _ => 0)))), (q_7, .inr (0, [.int (j_R_sizeWithin x), .int 0, .int 0, .ref ar_8, .ref ak_9])), (ar_8, .inl (cL, 81, .inr (.inl (fun _ => 0)))), (ak_9, .inl (cI, 81, .inl (fun _ => 0))), (q_11, .inr (0, [.int (j_R_sizeWithin y), .int 0, .int 0, .ref ar_12, .ref ak_13])), (ar_12, .inl (cL, 81, .inr (.inl (fun _ => 0)))), (ak_13, .inl (cI, 81, .inl (fun _ => 0))), (q_15, .inr (0, [.int (j_R_sizeWithin z), .int 0, .int 0, .ref ar_16, .ref ak_17])), (ar_16, .inl (cL, 81, .inr (.inl (fun _ => 0)))), (ak_17, .inl (cI, 81, .inl (fun _ => 0)))] H → va_D A [(aR, .inr (2, [.ref q_7, .ref q_11, .ref q_15, .ref q_1, .ref q_2, .ref q_5, .ref q_6, .int 0, .int 0])), (q_1, .inl (cI, 6, .inl g)), (q_2, .inr (1, [.ref aH_3, .int 0])), (aH_3, .inl (cL, 1001, .inr (.inl (fun _ => 0)))), (q_5, .inl (cL, 500, .inr (.inl (fun _ => 0)))), (q_6, .inl (cL, 500, .inr (.inl (fun _ => 0)))), (q_7, .inr (0, [.int (j_R_sizeWithin x), .int 0, .int 0, .ref ar_8, .ref ak_9])), (ar_8, .inl (cL, 81, .inr (.inl (fun _ => 0)))), (ak_9, .inl (cI, 81, .inl (fun _ => 0))), (q_11, .inr (0, [.int (j_R_sizeWithin y), .int 0, .int 0, .ref ar_12, .ref ak_13])), (ar_12, .inl (cL, 81, .inr (.inl (fun _ => 0)))), (ak_13, .inl (cI, 81, .inl (fun _ => 0))), (q_15, .inr (0, [.int (j_R_sizeWithin z), .int 0, .int 0, .ref ar_16, .ref ak_17])), (ar_16, .inl (cL, 81, .inr (.inl (fun _ => 0)))), (ak_17, .inl (cI, 81, .inl (fun _ => 0)))] → va_S A s.heap H locs → ∀ (ls : Array Slot), lv_has ls 5 [(4, .int (nI k)), (0, .ref aR)] → W p l e (headSpec w_R_init ({ frames := 2, cells := 14, slots := 2510, locals := 34 })).room s m ([.ref aR, .int x, .int y, .int z] : List Value).toArray below meth c H locs 14 2510 (MQ below (va_Qv (fun (u : (Nat) × (Nat) × (Nat) × (Nat) × (Nat) × (Nat) × (Nat) × (Nat) × (Nat) × (Nat) × (Nat) × (Nat) × (Nat) × (Nat) × (Nat → Int32)) => ∀ j, j < 6 → u.2.2.2.2.2.2.2.2.2.2.2.2.2.2 j = 900) (fun u t => va_P (dC, dI) vwCl [(aR, .inr (2, [.ref u.1, .ref u.2.1, .ref u.2.2.1, .ref u.2.2.2.2.2.2.2.2.2.2.2.2.1, .ref u.2.2.2.2.2.2.2.2.2.1, .ref u.2.2.2.2.2.2.2.2.2.2.2.1, .ref u.2.2.2.2.2.2.2.2.2.2.2.2.2.1, .int 0, .int 0])), (u.1, .inr (0, [.int (j_R_sizeWithin x), .int 0, .int 0, .ref u.2.2.2.1, .ref u.2.2.2.2.2.2.1])), (u.2.1, .inr (0, [.int (j_R_sizeWithin y), .int 0, .int 0, .ref u.2.2.2.2.1, .ref u.2.2.2.2.2.2.2.1])), (u.2.2.1, .inr (0, [.int (j_R_sizeWithin z), .int 0, .int 0, .ref u.2.2.2.2.2.1, .ref u.2.2.2.2.2.2.2.2.1])), (u.2.2.2.1, .inl (cL, 81, .inr (.inl (fun _ => 0)))), (u.2.2.2.2.1, .inl (cL, 81, .inr (.inl (fun _ => 0)))), (u.2.2.2.2.2.1, .inl (cL, 81, .inr (.inl (fun _ => 0)))), (u.2.2.2.2.2.2.1, .inl (cI, 81, .inl (fun _ => 0))), (u.2.2.2.2.2.2.2.1, .inl (cI, 81, .inl (fun _ => 0))), (u.2.2.2.2.2.2.2.2.1, .inl (cI, 81, .inl (fun _ => 0))), (u.2.2.2.2.2.2.2.2.2.1, .inr (1, [.ref u.2.2.2.2.2.2.2.2.2.2.1, .int 0])), (u.2.2.2.2.2.2.2.2.2.2.1, .inl (cL, 1001, .inr (.inl (fun _ => 0)))), (u.2.2.2.2.2.2.2.2.2.2.2.1, .inl (cL, 500, .inr (.inl (fun _ => 0)))), (u.2.2.2.2.2.2.2.2.2.2.2.2.1, .inl (cI, 6, .inl u.2.2.2.2.2.2.2.2.2.2.2.2.2.2)), (u.2.2.2.2.2.2.2.2.2.2.2.2.2.1, .inl (cL, 500, .inr (.inl (fun _ => 0))))] t.heap ∧ va_D A [(aR, .inr (2, [.ref u.1, .ref u.2.1, .ref u.2.2.1, .ref u.2.2.2.2.2.2.2.2.2.2.2.2.1, .ref u.2.2.2.2.2.2.2.2.2.1, .ref u.2.2.2.2.2.2.2.2.2.2.2.1, .ref u.2.2.2.2.2.2.2.2.2.2.2.2.2.1, .int 0, .int 0])), (u.1, .inr (0, [.int (j_R_sizeWithin x), .int 0, .int 0, .ref u.2.2.2.1, .ref u.2.2.2.2.2.2.1])), (u.2.1, .inr (0, [.int (j_R_sizeWithin y), .int 0, .int 0, .ref u.2.2.2.2.1, .ref u.2.2.2.2.2.2.2.1])), (u.2.2.1, .inr (0, [.int (j_R_sizeWithin z), .int 0, .int 0, .ref u.2.2.2.2.2.1, .ref u.2.2.2.2.2.2.2.2.1])), (u.2.2.2.1, .inl (cL, 81, .inr (.inl (fun _ => 0)))), (u.2.2.2.2.1, .inl (cL, 81, .inr (.inl (fun _ => 0)))), (u.2.2.2.2.2.1, .inl (cL, 81, .inr (.inl (fun _ => 0)))), (u.2.2.2.2.2.2.1, .inl (cI, 81, .inl (fun _ => 0))), (u.2.2.2.2.2.2.2.1, .inl (cI, 81, .inl (fun _ => 0))), (u.2.2.2.2.2.2.2.2.1, .inl (cI, 81, .inl (fun _ => 0))), (u.2.2.2.2.2.2.2.2.2.1, .inr (1, [.ref u.2.2.2.2.2.2.2.2.2.2.1, .int 0])), (u.2.2.2.2.2.2.2.2.2.2.1, .inl (cL, 1001, .inr (.inl (fun _ => 0)))), (u.2.2.2.2.2.2.2.2.2.2.2.1, .inl (cL, 500, .inr (.inl (fun _ => 0)))), (u.2.2.2.2.2.2.2.2.2.2.2.2.1, .inl (cI, 6, .inl u.2.2.2.2.2.2.2.2.2.2.2.2.2.2)), (u.2.2.2.2.2.2.2.2.2.2.2.2.2.1, .inl (cL, 500, .inr (.inl (fun _ => 0))))]) A) ([.ref aR, .int x, .int y, .int z] : List Value).toArray s 14 2510 A) (F0 m 89 ls []) := by
    intro n9
    induction n9 with
    | zero => intro k g hn hk hg H locs hP hD hS ls hl; omega
    | succ n9 ih =>
      intro k g hn hk hg H locs hP hD hS ls hl
      refine lv_iload hx hb d_R_init_89 (lv_at hl 0 rfl) ?_
      refine lv_bipush (v := 6) hx hb d_R_init_91 (by decide) ?_
      refine lv_icmp_ge (tgt := 112) hx hb d_R_init_93 (by decide) (fun c_93 => ?_) (fun c_93 => ?_)
      · skip
        have k5 : k = 6 := by have : 6 ≤ k := nu_end (x := 6) (by omega) c_93; omega
        rw [k5] at hg
        have hP9 := hP.sub (ws' := [(aR, .inr (2, [.ref q_7, .ref q_11, .ref q_15, .ref q_1, .ref q_2, .ref q_5, .ref q_6, .int 0, .int 0])), (q_7, .inr (0, [.int (j_R_sizeWithin x), .int 0, .int 0, .ref ar_8, .ref ak_9])), (q_11, .inr (0, [.int (j_R_sizeWithin y), .int 0, .int 0, .ref ar_12, .ref ak_13])), (q_15, .inr (0, [.int (j_R_sizeWithin z), .int 0, .int 0, .ref ar_16, .ref ak_17])), (ar_8, .inl (cL, 81, .inr (.inl (fun _ => 0)))), (ar_12, .inl (cL, 81, .inr (.inl (fun _ => 0)))), (ar_16, .inl (cL, 81, .inr (.inl (fun _ => 0)))), (ak_9, .inl (cI, 81, .inl (fun _ => 0))), (ak_13, .inl (cI, 81, .inl (fun _ => 0))), (ak_17, .inl (cI, 81, .inl (fun _ => 0))), (q_2, .inr (1, [.ref aH_3, .int 0])), (aH_3, .inl (cL, 1001, .inr (.inl (fun _ => 0)))), (q_5, .inl (cL, 500, .inr (.inl (fun _ => 0)))), (q_1, .inl (cI, 6, .inl g)), (q_6, .inl (cL, 500, .inr (.inl (fun _ => 0))))]) [0, 6, 9, 12, 7, 10, 13, 8, 11, 14, 2, 3, 4, 1, 5] rfl
        have hD9 := hD.sub (ws' := [(aR, .inr (2, [.ref q_7, .ref q_11, .ref q_15, .ref q_1, .ref q_2, .ref q_5, .ref q_6, .int 0, .int 0])), (q_7, .inr (0, [.int (j_R_sizeWithin x), .int 0, .int 0, .ref ar_8, .ref ak_9])), (q_11, .inr (0, [.int (j_R_sizeWithin y), .int 0, .int 0, .ref ar_12, .ref ak_13])), (q_15, .inr (0, [.int (j_R_sizeWithin z), .int 0, .int 0, .ref ar_16, .ref ak_17])), (ar_8, .inl (cL, 81, .inr (.inl (fun _ => 0)))), (ar_12, .inl (cL, 81, .inr (.inl (fun _ => 0)))), (ar_16, .inl (cL, 81, .inr (.inl (fun _ => 0)))), (ak_9, .inl (cI, 81, .inl (fun _ => 0))), (ak_13, .inl (cI, 81, .inl (fun _ => 0))), (ak_17, .inl (cI, 81, .inl (fun _ => 0))), (q_2, .inr (1, [.ref aH_3, .int 0])), (aH_3, .inl (cL, 1001, .inr (.inl (fun _ => 0)))), (q_5, .inl (cL, 500, .inr (.inl (fun _ => 0)))), (q_1, .inl (cI, 6, .inl g)), (q_6, .inl (cL, 500, .inr (.inl (fun _ => 0))))]) [0, 6, 9, 12, 7, 10, 13, 8, 11, 14, 2, 3, 4, 1, 5] (by decide) rfl
        exact W.vret hx hb hr (fun t ht hW => ⟨⟨(q_7, q_11, q_15, ar_8, ar_12, ar_16, ak_9, ak_13, ak_17, q_2, aH_3, q_5, q_1, q_6, g), rfl, hg, by rw [ht]; exact hP9, hD9⟩, hS.F ht⟩) hS.2.2 d_R_init_112
      · skip
        have k5 : k < 6 := nu_on (x := 6) (by omega) c_93
        refine lv_aload_n hx hb d_R_init_96 rfl (lv_at hl 1 rfl) ?_
        refine va_get (D := (dC, dI)) (ci := 2) (v := .ref q_1) (C := "RoomEchoes") (T := FT_R) (N := 9) hx hb hts (hi_ in_R) hown hK hP 0 rfl rfl 3 (by decide) (ht_ hts mw99) (fun _ h9 => h9) rfl d_R_init_97 ?_
        refine lv_iload hx hb d_R_init_100 (lv_at hl 0 rfl) ?_
        refine lv_sipush (v := 900) hx hb d_R_init_102 (by decide) ?_
        refine va_iast hx hb hK hP hD hS 1 0 rfl rfl (vp_in_nI (by omega) (by omega)) d_R_init_105 (fun H locs hP hD hS => ?_)
        rw [nI_clamp (n := k) (by omega)] at hP hD
        have hP : va_P (dC, dI) vwCl [(aR, .inr (2, [.ref q_7, .ref q_11, .ref q_15, .ref q_1, .ref q_2, .ref q_5, .ref q_6, .int 0, .int 0])), (q_1, .inl (cI, 6, .inl (upd g k 900))), (q_2, .inr (1, [.ref aH_3, .int 0])), (aH_3, .inl (cL, 1001, .inr (.inl (fun _ => 0)))), (q_5, .inl (cL, 500, .inr (.inl (fun _ => 0)))), (q_6, .inl (cL, 500, .inr (.inl (fun _ => 0)))), (q_7, .inr (0, [.int (j_R_sizeWithin x), .int 0, .int 0, .ref ar_8, .ref ak_9])), (ar_8, .inl (cL, 81, .inr (.inl (fun _ => 0)))), (ak_9, .inl (cI, 81, .inl (fun _ => 0))), (q_11, .inr (0, [.int (j_R_sizeWithin y), .int 0, .int 0, .ref ar_12, .ref ak_13])), (ar_12, .inl (cL, 81, .inr (.inl (fun _ => 0)))), (ak_13, .inl (cI, 81, .inl (fun _ => 0))), (q_15, .inr (0, [.int (j_R_sizeWithin z), .int 0, .int 0, .ref ar_16, .ref ak_17])), (ar_16, .inl (cL, 81, .inr (.inl (fun _ => 0)))), (ak_17, .inl (cI, 81, .inl (fun _ => 0)))] H := hP
        have hD : va_D A [(aR, .inr (2, [.ref q_7, .ref q_11, .ref q_15, .ref q_1, .ref q_2, .ref q_5, .ref q_6, .int 0, .int 0])), (q_1, .inl (cI, 6, .inl (upd g k 900))), (q_2, .inr (1, [.ref aH_3, .int 0])), (aH_3, .inl (cL, 1001, .inr (.inl (fun _ => 0)))), (q_5, .inl (cL, 500, .inr (.inl (fun _ => 0)))), (q_6, .inl (cL, 500, .inr (.inl (fun _ => 0)))), (q_7, .inr (0, [.int (j_R_sizeWithin x), .int 0, .int 0, .ref ar_8, .ref ak_9])), (ar_8, .inl (cL, 81, .inr (.inl (fun _ => 0)))), (ak_9, .inl (cI, 81, .inl (fun _ => 0))), (q_11, .inr (0, [.int (j_R_sizeWithin y), .int 0, .int 0, .ref ar_12, .ref ak_13])), (ar_12, .inl (cL, 81, .inr (.inl (fun _ => 0)))), (ak_13, .inl (cI, 81, .inl (fun _ => 0))), (q_15, .inr (0, [.int (j_R_sizeWithin z), .int 0, .int 0, .ref ar_16, .ref ak_17])), (ar_16, .inl (cL, 81, .inr (.inl (fun _ => 0)))), (ak_17, .inl (cI, 81, .inl (fun _ => 0)))] := hD
        refine lv_iinc (v := nI (k + 1)) (lv' := [(4, .int (nI (k + 1))), (0, .ref aR)]) hx hb d_R_init_106 hl (k := 0) rfl (nI_succ _).symm (by decide) rfl (fun ls hl => ?_)
        refine lv_goto (tgt := 89) hx hb d_R_init_109 (by decide) ?_
        exact ih (k + 1) _ (by omega) (by omega) (kp_step hg) _ _ hP hD hS ls (lv_sub hl [0, 1] rfl)
  exact lp 7 0 _ (by omega) (by omega) (fun j hj => absurd hj (Nat.not_lt_zero j)) _ _ hP hD hS ls (lv_sub hl [0, 1] rfl)
end
section
/-! THROWS: methods that throw a new IllegalArgumentException and change nothing that was there -/
abbrev IAE : String := "java/lang/IllegalArgumentException"
def up9 : List String := ["java/lang/RuntimeException", "java/lang/Exception"]
theorem up_fit : ∀ n ∈ up9, Bundle.fit n = true := by decide +kernel
theorem atS_in : ∀ w ∈ (vx_atS "RoomEchoes" 140 IAE up9).filter goodWord, w ∈ tb := by decide +kernel
abbrev dcl (C : String) : Cond := .declares ⟨C, "<init>", "(Ljava/lang/String;)V"⟩
theorem atS_no : ∀ w ∈ (vx_atS "RoomEchoes" 140 IAE up9).filter (fun w => !goodWord w), w ∈ [Cond.castable IAE IAE, dcl "java/lang/RuntimeException", dcl "java/lang/Exception", dcl "java/lang/Throwable"] := by decide +kernel
def nws (U : State) : Prop := va_Nw (.castable IAE IAE) U ∧ va_Nw (dcl "java/lang/RuntimeException") U ∧ va_Nw (dcl "java/lang/Exception") U ∧ va_Nw (dcl "java/lang/Throwable") U
theorem nws.warm {s U : State} (hW : s.WarmedH U.vm) (h : nws s) : nws U := ⟨va_Nw.warmC hW h.1, va_Nw.warmD hW h.2.1, va_Nw.warmD hW h.2.2.1, va_Nw.warmD hW h.2.2.2⟩
theorem nws.same {u U : State} (hv : u.vm = U.vm) (h : nws u) : nws U := ⟨va_Nw.same rfl hv h.1, va_Nw.same rfl hv h.2.1, va_Nw.same rfl hv h.2.2.1, va_Nw.same rfl hv h.2.2.2⟩
theorem atS_ok : ∀ w ∈ Cond.classLink "RoomEchoes" 136 IAE :: Cond.initialized IAE :: vx_atS "RoomEchoes" 140 IAE up9, vx_ot w = true := by decide +kernel
/-- what a throw needs of the heap H: two static fields, two texts -/
def ts (A : Nat → Prop) (sa1 sa2 : Nat) (U : State) (H : Heap) : Prop := vx_Zq Bundle.tN "UNASSIGNED_STACK" Bundle.steD A U H ∧ vx_Zq Bundle.tN "SUPPRESSED_SENTINEL" Bundle.listD A U H ∧ vk_R "RoomEchoes" 138 "a number is out of its bounds" sa1 U ∧ vk_R "RoomEchoes" 143 "a distance is below 0" sa2 U ∧ nws U
theorem ts.warm {A : Nat → Prop} {sa1 sa2 : Nat} {s U : State} {H : Heap} (hW : s.WarmedH U.vm) (h : ts A sa1 sa2 s H) : ts A sa1 sa2 U H := ⟨vx_Zq.moved hW.alike h.1, vx_Zq.moved hW.alike h.2.1, vk_R.warm hW h.2.2.1, vk_R.warm hW h.2.2.2.1, nws.warm hW h.2.2.2.2⟩
theorem ts.same {A : Nat → Prop} {sa1 sa2 : Nat} {u U : State} {H : Heap} (hv : u.vm = U.vm) (h : ts A sa1 sa2 u H) : ts A sa1 sa2 U H := ⟨vx_Zq.moved (by rw [hv]; exact Vm.Alike.refl _) h.1, vx_Zq.moved (by rw [hv]; exact Vm.Alike.refl _) h.2.1, vk_R.same hv.symm h.2.2.1, vk_R.same hv.symm h.2.2.2.1, nws.same hv h.2.2.2.2⟩
theorem ts.kept {A : Nat → Prop} {sa1 sa2 : Nat} {U : State} {H H1 : Heap} (h : ts A sa1 sa2 U H) (hq : ∀ a : Nat, a < H.size → ¬ A a → H1[a]? = H[a]?) : ts A sa1 sa2 U H1 := ⟨h.1.kept hq, h.2.1.kept hq, h.2.2⟩
theorem ts.none {A : Nat → Prop} {sa1 sa2 : Nat} {U : State} {H : Heap} (h : ts A sa1 sa2 U H) : ts (fun _ => False) sa1 sa2 U H := ⟨h.1.narrow (fun _ q => q.elim), h.2.1.narrow (fun _ q => q.elim), h.2.2⟩
abbrev tx_P (D : va_G) (cI cL : ClassId) (ws : va_W) (sa1 sa2 : Nat) (av : List Value) : Array Value → State → Prop := va_Pc av (fun U => va_P D vwCl ws U.heap ∧ am D cI cL U ∧ ts (fun _ => False) sa1 sa2 U U.heap)
abbrev tx_Q : Array Value → State → Outcome → State → Prop := va_Qv (fun _ : Unit => False) (fun _ _ => True) (fun _ => False)
abbrev tx_X : String → State → State → Prop := vx_X (fun _ : Unit => True) (fun E _ _ => E = IAE) (fun _ => False)
abbrev TX (l : Launch) (y : MethodName) (ws : List Cond) (rm : Room) (Pc : Array Value → State → Prop) : Prop := vx_Met l y ws rm Pc tx_Q tx_X 1 6 (fun _ => False)
section TXS
variable {p : Program} {l : Launch} {e : Env} {R : Room} {s : State} {m : MethodId} {args : Array Value} {below : List Frame} {meth : Method} {c : Code} {H H0 : Heap} {locs : List Loc} {cells slots : Nat} {Q : State → Prop}
variable {D : va_G} {cI cL : ClassId} {ws : va_W} {av : List Value} {sa1 sa2 : Nat} {pc : Nat} {ls : Array Slot} {rest st0 : List Value} {a : Array Value}
theorem tx_bl : FrameBlind (tx_P D cI cL ws sa1 sa2 av) := fun a U g mk q => ⟨q.1, q.2.1, am.same (u := U) (U := U.calling g mk a) rfl q.2.2.1, ts.same (u := U) (U := U.calling g mk a) rfl q.2.2.2⟩
theorem tx_S (hM : am D cI cL s) (hP : va_P D vwCl ws H) (hT : ts (fun _ => False) sa1 sa2 s H) : PreS s H (tx_P D cI cL ws sa1 sa2 av) av := ⟨tx_bl, fun U hU hW => ⟨rfl, by rw [hU]; exact hP, am.warm hW hM, by rw [hU]; exact ts.warm hW hT⟩⟩
theorem tx_V {C : String} {b : Nat} {ci : Nat} {q : vw_C} {fs : List Value} (hM : am D cI cL s) (hP : va_P D vwCl ws H) (hT : ts (fun _ => False) sa1 sa2 s H) (hc : vwCl[ci]? = some q) (he : ws[0]? = some (b, .inr (ci, fs))) (hq : q.1 = C) : PreV s H C b (tx_P D cI cL ws sa1 sa2 (.ref b :: av)) av :=
  ⟨tx_bl, by subst hq; exact va_recv hM.1 hP hc he, fun U hU hW => ⟨rfl, by rw [hU]; exact hP, am.warm hW hM, by rw [hU]; exact ts.warm hW hT⟩⟩
theorem tx_out (hr : vx_Run p l e R s m args below meth c s.heap [] 0 0 1 6 (F0 m pc ls st0) rest (tx_Q a) tx_X (fun _ => False)) (hout : ∀ x ∈ c.exceptionTable.toList, False) (hlocks : meth.locks = false) : W p l e R s m args below meth c s.heap [] 0 0 (vx_MQ below tx_Q tx_X args s 1 6 (fun _ => False)) (F0 m pc ls st0) := by
  refine vx_callv (A0 := fun _ => False) (H0 := s.heap) hr va_S.rf (fun q _ h => h) (fun q h => h) (fun q _ h => h) (fun E ce q9 u t H1 locs1 ht hv hp hB hz hk hS hc hvm hcl => ?_) (fun u t H1 locs1 ht hv hp hB hz hk hS => hp.elim)
  exact vx_out (fun x hx => (hout x hx).elim) hlocks hc hvm hcl (fun t2 ht2 ha2 => ⟨(), trivial, hB, by rw [ht2]; exact hz, fun q hq _ => by rw [ht2]; exact hk q hq id⟩) hS.2.2 (Nat.le_refl _) (Nat.le_refl _)
theorem tx_at {A : Nat → Prop} {c0 : Cond} (hts : ∀ w ∈ c0 :: tb, w.before args s = true) (hT : ts A sa1 sa2 s H) : ∀ w ∈ vx_atS "RoomEchoes" 140 IAE up9, w.before args s = true :=
  vx_hat (fun w hw => hts w (List.mem_cons_of_mem _ (atS_in w hw))) atS_no (vx_c (va_Nw.use rfl hT.2.2.2.2.1) (vx_c (va_Nw.use rfl hT.2.2.2.2.2.1) (vx_c (va_Nw.use rfl hT.2.2.2.2.2.2.1) (vx_c (va_Nw.use rfl hT.2.2.2.2.2.2.2) vx_n))))
end TXS
end
section
def wi (n lo hi : Int32) : Prop := lo ≤ n ∧ n ≤ hi
def wn3 (a b c : Int32) : Prop := wi a (-40) 40 ∧ wi b (-40) 40 ∧ wi c (-40) 40
def wpt (wX wY wZ x y z : Int32) : Prop := wi x 0 wX ∧ wi y 0 wY ∧ wi z 0 wZ
theorem wi_1 {n lo hi : Int32} (h : wi n lo hi) : ¬ n < lo := by
  have := h.1
  rw [Int32.le_iff_toInt_le] at this
  rw [Int32.lt_iff_toInt_lt]
  omega
theorem wi_no {n lo hi : Int32} (h1 : ¬ n < lo) (h2 : n ≤ hi) : wi n lo hi := by
  refine ⟨?_, h2⟩
  rw [Int32.lt_iff_toInt_lt] at h1
  rw [Int32.le_iff_toInt_le]
  omega

set_option maxHeartbeats 4000000 in
set_option maxRecDepth 100000 in
theorem c_R_requireWithin (l : Launch) (n : Int32) (lo : Int32) (hi : Int32) (h : wi n lo hi) : Met l y_R_requireWithin w_R_requireWithin ({ frames := 0, cells := 0, slots := 0, locals := 0 }) (st_P [.int n, .int lo, .int hi]) (va_Sv (fun _ => True)) 0 0 (fun _ => False) := by
  refine Met.ofW (cc := b_R_requireWithin) (maxL := 3) (ret := none) (by decide) rfl ?_
  intro p e s m args below meth c s₁ B hml hv
  obtain ⟨rfl, -⟩ := hv
  have hx := B.exec
  have hb := B.bytes
  have hr := B.returns
  have hts := atoms_spec (ws := w_R_requireWithin) B.pre
  have hown : s.vm.findClass "RoomEchoes" = some m.cls := findClass_of_methodNamed B.named
  have hlocks := B.notSynchronized
  have hl := lv_entry ([.int n, .int lo, .int hi]) (n := 3) (Nat.le_of_ble_eq_true rfl)
  rw [lg_entry_eq]
  generalize (lg_sl ([.int n, .int lo, .int hi]) ++ List.replicate (3 - (lg_sl ([.int n, .int lo, .int hi])).length) Slot.unset).toArray = ls at hl ⊢
  have hl : lv_has ls 3 [(0, .int n), (1, .int lo), (2, .int hi)] := hl
  refine lv_iload_n hx hb d_R_requireWithin_0 rfl (lv_at hl 0 rfl) ?_
  refine lv_iload_n hx hb d_R_requireWithin_1 rfl (lv_at hl 1 rfl) ?_
  refine lv_icmp_lt (tgt := 10) hx hb d_R_requireWithin_2 (by decide) (fun c_2 => ?_) (fun c_2 => ?_)
  · skip
    exact absurd c_2 (wi_1 h)
  · skip
    refine lv_iload_n hx hb d_R_requireWithin_5 rfl (lv_at hl 0 rfl) ?_
    refine lv_iload_n hx hb d_R_requireWithin_6 rfl (lv_at hl 2 rfl) ?_
    refine lv_icmp_le (tgt := 20) hx hb d_R_requireWithin_7 (by decide) (fun c_7 => ?_) (fun c_7 => ?_)
    · skip
      exact W.vret hx hb hr (fun t ht hW => ⟨rfl, trivial, ht⟩) (fun q h => by cases h) d_R_requireWithin_20
    · skip
      exact absurd h.2 c_7

set_option maxHeartbeats 4000000 in
set_option maxRecDepth 100000 in
theorem t_R_requireWithin (l : Launch) (hst : l.stackTraces = false) (dC : Nat → ClassId) (dI : Nat → Nat → Nat) (cI cL : ClassId) (sa1 sa2 : Nat) (n : Int32) (lo : Int32) (hi : Int32) (h : ¬ (wi n lo hi)) : TX l y_R_requireWithin w_R_requireWithin ({ frames := 6, cells := 1, slots := 6, locals := 82 }) (tx_P (dC, dI) cI cL [] sa1 sa2 [.int n, .int lo, .int hi]) := by
  refine vx_ofW (cc := b_R_requireWithin) (maxL := 3) (ret := none) (by decide) rfl ?_
  intro p e s m args below meth c s₁ B hml htab hv
  obtain ⟨rfl, hP, hM, hT⟩ := hv
  have hx := B.exec
  have hb := B.bytes
  have hr := B.returns
  have hts := atoms_spec (ws := w_R_requireWithin) B.pre
  have hown : s.vm.findClass "RoomEchoes" = some m.cls := findClass_of_methodNamed B.named
  have hlocks := B.notSynchronized
  have hK := hM.1
  have hl := lv_entry ([.int n, .int lo, .int hi]) (n := 3) (Nat.le_of_ble_eq_true rfl)
  rw [lg_entry_eq]
  generalize (lg_sl ([.int n, .int lo, .int hi]) ++ List.replicate (3 - (lg_sl ([.int n, .int lo, .int hi])).length) Slot.unset).toArray = ls at hl ⊢
  have hl : lv_has ls 3 [(0, .int n), (1, .int lo), (2, .int hi)] := hl
  refine lv_iload_n hx hb d_R_requireWithin_0 rfl (lv_at hl 0 rfl) ?_
  refine lv_iload_n hx hb d_R_requireWithin_1 rfl (lv_at hl 1 rfl) ?_
  refine lv_icmp_lt (tgt := 10) hx hb d_R_requireWithin_2 (by decide) (fun c_2 => ?_) (fun c_2 => ?_)
  · skip
    exact vx_throwS (A := fun _ => False) (names := up9) (rest := []) hx hb hst hown (by decide +kernel) up_fit (ht_ hts mw142) (ht_ hts mw38) hT.2.2.1 (tx_at hts hT) atS_ok hT.1 hT.2.1 va_S.rf (by rw [hml]; exact hl.1) d_R_requireWithin_10 d_R_requireWithin_13 d_R_requireWithin_14 d_R_requireWithin_16 d_R_requireWithin_19 (fun x hx => (htab x hx).elim) (Nat.le_of_ble_eq_true rfl) (Nat.le_of_ble_eq_true rfl) (Nat.le_of_ble_eq_true rfl) (Nat.le_of_ble_eq_true rfl) hlocks (fun t ha hz hk => ⟨(), trivial, rfl, hz, fun q hq _ => hk q hq⟩) (fun z hz => nomatch hz) (Nat.le_refl _) (Nat.le_refl _)
  · skip
    refine lv_iload_n hx hb d_R_requireWithin_5 rfl (lv_at hl 0 rfl) ?_
    refine lv_iload_n hx hb d_R_requireWithin_6 rfl (lv_at hl 2 rfl) ?_
    refine lv_icmp_le (tgt := 20) hx hb d_R_requireWithin_7 (by decide) (fun c_7 => ?_) (fun c_7 => ?_)
    · skip
      exact absurd (wi_no c_2 c_7) h
    · skip
      exact vx_throwS (A := fun _ => False) (names := up9) (rest := []) hx hb hst hown (by decide +kernel) up_fit (ht_ hts mw142) (ht_ hts mw38) hT.2.2.1 (tx_at hts hT) atS_ok hT.1 hT.2.1 va_S.rf (by rw [hml]; exact hl.1) d_R_requireWithin_10 d_R_requireWithin_13 d_R_requireWithin_14 d_R_requireWithin_16 d_R_requireWithin_19 (fun x hx => (htab x hx).elim) (Nat.le_of_ble_eq_true rfl) (Nat.le_of_ble_eq_true rfl) (Nat.le_of_ble_eq_true rfl) (Nat.le_of_ble_eq_true rfl) hlocks (fun t ha hz hk => ⟨(), trivial, rfl, hz, fun q hq _ => hk q hq⟩) (fun z hz => nomatch hz) (Nat.le_refl _) (Nat.le_refl _)

set_option maxHeartbeats 4000000 in
set_option maxRecDepth 100000 in
theorem c_R_requireDistance (l : Launch) (d : Int64) (h : 0 ≤ d) : Met l y_R_requireDistance w_R_requireDistance ({ frames := 0, cells := 0, slots := 0, locals := 0 }) (st_P [.long d]) (va_Sv (fun _ => True)) 0 0 (fun _ => False) := by
  refine Met.ofW (cc := b_R_requireDistance) (maxL := 2) (ret := none) (by decide) rfl ?_
  intro p e s m args below meth c s₁ B hml hv
  obtain ⟨rfl, -⟩ := hv
  have hx := B.exec
  have hb := B.bytes
  have hr := B.returns
  have hts := atoms_spec (ws := w_R_requireDistance) B.pre
  have hown : s.vm.findClass "RoomEchoes" = some m.cls := findClass_of_methodNamed B.named
  have hlocks := B.notSynchronized
  have hl := lv_entry ([.long d]) (n := 2) (Nat.le_of_ble_eq_true rfl)
  rw [lg_entry_eq]
  generalize (lg_sl ([.long d]) ++ List.replicate (2 - (lg_sl ([.long d])).length) Slot.unset).toArray = ls at hl ⊢
  have hl : lv_has ls 2 [(0, .long d)] := hl
  refine lv_lload_n hx hb d_R_requireDistance_0 rfl (lv_at hl 0 rfl) ?_
  refine lv_lconst (v := 0) hx hb d_R_requireDistance_1 (by decide) ?_
  refine W.lcmp hx hb d_R_requireDistance_2 ?_
  refine lv_if_ge (tgt := 16) hx hb d_R_requireDistance_3 (by decide) (fun c_3 => ?_) (fun c_3 => ?_)
  · rw [lg_cmp_ge] at c_3
    exact W.vret hx hb hr (fun t ht hW => ⟨rfl, trivial, ht⟩) (fun q h => by cases h) d_R_requireDistance_16
  · rw [lg_cmp_ge] at c_3
    exact absurd h c_3

set_option maxHeartbeats 4000000 in
set_option maxRecDepth 100000 in
theorem t_R_requireDistance (l : Launch) (hst : l.stackTraces = false) (dC : Nat → ClassId) (dI : Nat → Nat → Nat) (cI cL : ClassId) (sa1 sa2 : Nat) (d : Int64) (h : ¬ (0 ≤ d)) : TX l y_R_requireDistance w_R_requireDistance ({ frames := 6, cells := 1, slots := 6, locals := 82 }) (tx_P (dC, dI) cI cL [] sa1 sa2 [.long d]) := by
  refine vx_ofW (cc := b_R_requireDistance) (maxL := 2) (ret := none) (by decide) rfl ?_
  intro p e s m args below meth c s₁ B hml htab hv
  obtain ⟨rfl, hP, hM, hT⟩ := hv
  have hx := B.exec
  have hb := B.bytes
  have hr := B.returns
  have hts := atoms_spec (ws := w_R_requireDistance) B.pre
  have hown : s.vm.findClass "RoomEchoes" = some m.cls := findClass_of_methodNamed B.named
  have hlocks := B.notSynchronized
  have hK := hM.1
  have hl := lv_entry ([.long d]) (n := 2) (Nat.le_of_ble_eq_true rfl)
  rw [lg_entry_eq]
  generalize (lg_sl ([.long d]) ++ List.replicate (2 - (lg_sl ([.long d])).length) Slot.unset).toArray = ls at hl ⊢
  have hl : lv_has ls 2 [(0, .long d)] := hl
  refine lv_lload_n hx hb d_R_requireDistance_0 rfl (lv_at hl 0 rfl) ?_
  refine lv_lconst (v := 0) hx hb d_R_requireDistance_1 (by decide) ?_
  refine W.lcmp hx hb d_R_requireDistance_2 ?_
  refine lv_if_ge (tgt := 16) hx hb d_R_requireDistance_3 (by decide) (fun c_3 => ?_) (fun c_3 => ?_)
  · rw [lg_cmp_ge] at c_3
    exact absurd c_3 h
  · rw [lg_cmp_ge] at c_3
    exact vx_throwS (A := fun _ => False) (names := up9) (rest := []) hx hb hst hown (by decide +kernel) up_fit (ht_ hts mw142) (ht_ hts mw38) hT.2.2.2.1 (tx_at hts hT) atS_ok hT.1 hT.2.1 va_S.rf (by rw [hml]; exact hl.1) d_R_requireDistance_6 d_R_requireDistance_9 d_R_requireDistance_10 d_R_requireDistance_12 d_R_requireDistance_15 (fun x hx => (htab x hx).elim) (Nat.le_of_ble_eq_true rfl) (Nat.le_of_ble_eq_true rfl) (Nat.le_of_ble_eq_true rfl) (Nat.le_of_ble_eq_true rfl) hlocks (fun t ha hz hk => ⟨(), trivial, rfl, hz, fun q hq _ => hk q hq⟩) (fun z hz => nomatch hz) (Nat.le_refl _) (Nat.le_refl _)

set_option maxHeartbeats 4000000 in
set_option maxRecDepth 100000 in
theorem c_R_requireNumbers (l : Launch) (a : Int32) (b : Int32) (c9 : Int32) (h : wn3 a b c9) : Met l y_R_requireNumbers w_R_requireNumbers ({ frames := 1, cells := 0, slots := 0, locals := 22 }) (st_P [.int a, .int b, .int c9]) (va_Sv (fun _ => True)) 0 0 (fun _ => False) := by
  refine Met.ofW (cc := b_R_requireNumbers) (maxL := 3) (ret := none) (by decide) rfl ?_
  intro p e s m args below meth c s₁ B hml hv
  obtain ⟨rfl, -⟩ := hv
  have hx := B.exec
  have hb := B.bytes
  have hr := B.returns
  have hts := atoms_spec (ws := w_R_requireNumbers) B.pre
  have hown : s.vm.findClass "RoomEchoes" = some m.cls := findClass_of_methodNamed B.named
  have hlocks := B.notSynchronized
  have hl := lv_entry ([.int a, .int b, .int c9]) (n := 3) (Nat.le_of_ble_eq_true rfl)
  rw [lg_entry_eq]
  generalize (lg_sl ([.int a, .int b, .int c9]) ++ List.replicate (3 - (lg_sl ([.int a, .int b, .int c9])).length) Slot.unset).toArray = ls at hl ⊢
  have hl : lv_has ls 3 [(0, .int a), (1, .int b), (2, .int c9)] := hl
  refine lv_iload_n hx hb d_R_requireNumbers_0 rfl (lv_at hl 0 rfl) ?_
  refine lv_bipush (v := (-40)) hx hb d_R_requireNumbers_1 (by decide) ?_
  refine lv_bipush (v := 40) hx hb d_R_requireNumbers_3 (by decide) ?_
  refine rd_cv (va_runS (As := [.int a, .int (-40), .int 40]) (rest := []) ⟨hx, hb, hml, hown, hts⟩ (c_R_requireWithin l a (-40) 40 h.1) (cwS 3 hts (gi_S mw141 mw139 mw140 mw30) rfl rfl rfl (by decide +kernel) ⟨Nat.le_of_ble_eq_true rfl, Nat.le_of_ble_eq_true rfl⟩) st_S rfl rfl hl.1 rfl (lv_room (Nat.le_of_ble_eq_true rfl)) d_R_requireNumbers_5 ⟨Nat.le_of_ble_eq_true rfl, Nat.le_of_ble_eq_true rfl⟩) ?_
  refine lv_iload_n hx hb d_R_requireNumbers_8 rfl (lv_at hl 1 rfl) ?_
  refine lv_bipush (v := (-40)) hx hb d_R_requireNumbers_9 (by decide) ?_
  refine lv_bipush (v := 40) hx hb d_R_requireNumbers_11 (by decide) ?_
  refine rd_cv (va_runS (As := [.int b, .int (-40), .int 40]) (rest := []) ⟨hx, hb, hml, hown, hts⟩ (c_R_requireWithin l b (-40) 40 h.2.1) (cwS 3 hts (gi_S mw141 mw139 mw140 mw30) rfl rfl rfl (by decide +kernel) ⟨Nat.le_of_ble_eq_true rfl, Nat.le_of_ble_eq_true rfl⟩) st_S rfl rfl hl.1 rfl (lv_room (Nat.le_of_ble_eq_true rfl)) d_R_requireNumbers_13 ⟨Nat.le_of_ble_eq_true rfl, Nat.le_of_ble_eq_true rfl⟩) ?_
  refine lv_iload_n hx hb d_R_requireNumbers_16 rfl (lv_at hl 2 rfl) ?_
  refine lv_bipush (v := (-40)) hx hb d_R_requireNumbers_17 (by decide) ?_
  refine lv_bipush (v := 40) hx hb d_R_requireNumbers_19 (by decide) ?_
  refine rd_cv (va_runS (As := [.int c9, .int (-40), .int 40]) (rest := []) ⟨hx, hb, hml, hown, hts⟩ (c_R_requireWithin l c9 (-40) 40 h.2.2) (cwS 3 hts (gi_S mw141 mw139 mw140 mw30) rfl rfl rfl (by decide +kernel) ⟨Nat.le_of_ble_eq_true rfl, Nat.le_of_ble_eq_true rfl⟩) st_S rfl rfl hl.1 rfl (lv_room (Nat.le_of_ble_eq_true rfl)) d_R_requireNumbers_21 ⟨Nat.le_of_ble_eq_true rfl, Nat.le_of_ble_eq_true rfl⟩) ?_
  exact W.vret hx hb hr (fun t ht hW => ⟨rfl, trivial, ht⟩) (fun q h => by cases h) d_R_requireNumbers_24

set_option maxHeartbeats 4000000 in
set_option maxRecDepth 100000 in
theorem t_R_requireNumbers (l : Launch) (hst : l.stackTraces = false) (dC : Nat → ClassId) (dI : Nat → Nat → Nat) (cI cL : ClassId) (sa1 sa2 : Nat) (a : Int32) (b : Int32) (c9 : Int32) (h : ¬ (wn3 a b c9)) : TX l y_R_requireNumbers w_R_requireNumbers ({ frames := 7, cells := 1, slots := 6, locals := 104 }) (tx_P (dC, dI) cI cL [] sa1 sa2 [.int a, .int b, .int c9]) := by
  refine vx_ofW (cc := b_R_requireNumbers) (maxL := 3) (ret := none) (by decide) rfl ?_
  intro p e s m args below meth c s₁ B hml htab hv
  obtain ⟨rfl, hP, hM, hT⟩ := hv
  have hx := B.exec
  have hb := B.bytes
  have hr := B.returns
  have hts := atoms_spec (ws := w_R_requireNumbers) B.pre
  have hown : s.vm.findClass "RoomEchoes" = some m.cls := findClass_of_methodNamed B.named
  have hlocks := B.notSynchronized
  have hK := hM.1
  have hl := lv_entry ([.int a, .int b, .int c9]) (n := 3) (Nat.le_of_ble_eq_true rfl)
  rw [lg_entry_eq]
  generalize (lg_sl ([.int a, .int b, .int c9]) ++ List.replicate (3 - (lg_sl ([.int a, .int b, .int c9])).length) Slot.unset).toArray = ls at hl ⊢
  have hl : lv_has ls 3 [(0, .int a), (1, .int b), (2, .int c9)] := hl
  refine lv_iload_n hx hb d_R_requireNumbers_0 rfl (lv_at hl 0 rfl) ?_
  refine lv_bipush (v := (-40)) hx hb d_R_requireNumbers_1 (by decide) ?_
  refine lv_bipush (v := 40) hx hb d_R_requireNumbers_3 (by decide) ?_
  by_cases q_5 : wi a (-40) 40
  rotate_left
  · have hPc := hP.sub (ws' := []) [] rfl
    exact tx_out (vx_runS (As := [.int a, .int (-40), .int 40]) (rest := []) ⟨hx, hb, hml, hown, hts⟩ (t_R_requireWithin l hst dC dI cI cL sa1 sa2 a (-40) 40 q_5) (cwS 3 hts (gi_S mw141 mw139 mw140 mw30) rfl rfl rfl (by decide +kernel) ⟨Nat.le_of_ble_eq_true rfl, Nat.le_of_ble_eq_true rfl⟩) (tx_S hM hPc hT) rfl rfl hl.1 rfl (lv_room (Nat.le_of_ble_eq_true rfl)) d_R_requireNumbers_5 ⟨Nat.le_of_ble_eq_true rfl, Nat.le_of_ble_eq_true rfl⟩) htab hlocks
  refine rd_cv (va_runS (As := [.int a, .int (-40), .int 40]) (rest := []) ⟨hx, hb, hml, hown, hts⟩ (c_R_requireWithin l a (-40) 40 q_5) (cwS 3 hts (gi_S mw141 mw139 mw140 mw30) rfl rfl rfl (by decide +kernel) ⟨Nat.le_of_ble_eq_true rfl, Nat.le_of_ble_eq_true rfl⟩) st_S rfl rfl hl.1 rfl (lv_room (Nat.le_of_ble_eq_true rfl)) d_R_requireNumbers_5 ⟨Nat.le_of_ble_eq_true rfl, Nat.le_of_ble_eq_true rfl⟩) ?_
  refine lv_iload_n hx hb d_R_requireNumbers_8 rfl (lv_at hl 1 rfl) ?_
  refine lv_bipush (v := (-40)) hx hb d_R_requireNumbers_9 (by decide) ?_
  refine lv_bipush (v := 40) hx hb d_R_requireNumbers_11 (by decide) ?_
  by_cases q_13 : wi b (-40) 40
  rotate_left
  · have hPc := hP.sub (ws' := []) [] rfl
    exact tx_out (vx_runS (As := [.int b, .int (-40), .int 40]) (rest := []) ⟨hx, hb, hml, hown, hts⟩ (t_R_requireWithin l hst dC dI cI cL sa1 sa2 b (-40) 40 q_13) (cwS 3 hts (gi_S mw141 mw139 mw140 mw30) rfl rfl rfl (by decide +kernel) ⟨Nat.le_of_ble_eq_true rfl, Nat.le_of_ble_eq_true rfl⟩) (tx_S hM hPc hT) rfl rfl hl.1 rfl (lv_room (Nat.le_of_ble_eq_true rfl)) d_R_requireNumbers_13 ⟨Nat.le_of_ble_eq_true rfl, Nat.le_of_ble_eq_true rfl⟩) htab hlocks
  refine rd_cv (va_runS (As := [.int b, .int (-40), .int 40]) (rest := []) ⟨hx, hb, hml, hown, hts⟩ (c_R_requireWithin l b (-40) 40 q_13) (cwS 3 hts (gi_S mw141 mw139 mw140 mw30) rfl rfl rfl (by decide +kernel) ⟨Nat.le_of_ble_eq_true rfl, Nat.le_of_ble_eq_true rfl⟩) st_S rfl rfl hl.1 rfl (lv_room (Nat.le_of_ble_eq_true rfl)) d_R_requireNumbers_13 ⟨Nat.le_of_ble_eq_true rfl, Nat.le_of_ble_eq_true rfl⟩) ?_
  refine lv_iload_n hx hb d_R_requireNumbers_16 rfl (lv_at hl 2 rfl) ?_
  refine lv_bipush (v := (-40)) hx hb d_R_requireNumbers_17 (by decide) ?_
  refine lv_bipush (v := 40) hx hb d_R_requireNumbers_19 (by decide) ?_
  by_cases q_21 : wi c9 (-40) 40
  rotate_left
  · have hPc := hP.sub (ws' := []) [] rfl
    exact tx_out (vx_runS (As := [.int c9, .int (-40), .int 40]) (rest := []) ⟨hx, hb, hml, hown, hts⟩ (t_R_requireWithin l hst dC dI cI cL sa1 sa2 c9 (-40) 40 q_21) (cwS 3 hts (gi_S mw141 mw139 mw140 mw30) rfl rfl rfl (by decide +kernel) ⟨Nat.le_of_ble_eq_true rfl, Nat.le_of_ble_eq_true rfl⟩) (tx_S hM hPc hT) rfl rfl hl.1 rfl (lv_room (Nat.le_of_ble_eq_true rfl)) d_R_requireNumbers_21 ⟨Nat.le_of_ble_eq_true rfl, Nat.le_of_ble_eq_true rfl⟩) htab hlocks
  exact absurd (show wn3 a b c9 from ⟨q_5, q_13, q_21⟩) h

set_option maxHeartbeats 4000000 in
set_option maxRecDepth 100000 in
theorem c_R_requirePoint (l : Launch) (dC : Nat → ClassId) (dI : Nat → Nat → Nat) (cI cL : ClassId) (aR : Nat) (aX : Nat) (aY : Nat) (aZ : Nat) (aK : Nat) (aF : Nat) (aE : Nat) (aL : Nat) (od : Int32) (wd : Int32) (wX : Int32) (sX : Int32) (tX : Int32) (rX : Nat) (kX : Nat) (wY : Int32) (sY : Int32) (tY : Int32) (rY : Nat) (kY : Nat) (wZ : Int32) (sZ : Int32) (tZ : Int32) (rZ : Nat) (kZ : Nat) (x : Int32) (y : Int32) (z : Int32) (h : wpt wX wY wZ x y z) : Met l y_R_requirePoint w_R_requirePoint ({ frames := 1, cells := 0, slots := 0, locals := 22 }) (rd_P (dC, dI) cI cL [(aR, .inr (2, [.ref aX, .ref aY, .ref aZ, .ref aK, .ref aF, .ref aE, .ref aL, .int od, .int wd])), (aX, .inr (0, [.int wX, .int sX, .int tX, .ref rX, .ref kX])), (aY, .inr (0, [.int wY, .int sY, .int tY, .ref rY, .ref kY])), (aZ, .inr (0, [.int wZ, .int sZ, .int tZ, .ref rZ, .ref kZ]))] [.ref aR, .int x, .int y, .int z]) (va_Sv (fun _ => True)) 0 0 (fun _ => False) := by
  refine Met.ofW (cc := b_R_requirePoint) (maxL := 4) (ret := none) (by decide) rfl ?_
  intro p e s m args below meth c s₁ B hml hv
  obtain ⟨rfl, hP, hM⟩ := hv
  have hx := B.exec
  have hb := B.bytes
  have hr := B.returns
  have hts := atoms_spec (ws := w_R_requirePoint) B.pre
  have hown : s.vm.findClass "RoomEchoes" = some m.cls := findClass_of_methodNamed B.named
  have hlocks := B.notSynchronized
  have hK := hM.1
  have hl := lv_entry ([.ref aR, .int x, .int y, .int z]) (n := 4) (Nat.le_of_ble_eq_true rfl)
  rw [lg_entry_eq]
  generalize (lg_sl ([.ref aR, .int x, .int y, .int z]) ++ List.replicate (4 - (lg_sl ([.ref aR, .int x, .int y, .int z])).length) Slot.unset).toArray = ls at hl ⊢
  have hl : lv_has ls 4 [(0, .ref aR), (1, .int x), (2, .int y), (3, .int z)] := hl
  refine lv_iload_n hx hb d_R_requirePoint_0 rfl (lv_at hl 1 rfl) ?_
  refine lv_iconst (v := 0) hx hb d_R_requirePoint_1 (by decide) ?_
  refine lv_aload_n hx hb d_R_requirePoint_2 rfl (lv_at hl 0 rfl) ?_
  refine va_get (D := (dC, dI)) (ci := 2) (v := .ref aX) (C := "RoomEchoes") (T := FT_R) (N := 9) hx hb hts (hi_ in_R) hown hK hP 0 rfl rfl 0 (by decide) (ht_ hts mw96) (fun _ h9 => h9) rfl d_R_requirePoint_3 ?_
  refine va_get (D := (dC, dI)) (ci := 0) (v := .int wX) (C := "RoomEchoes$Axis") (T := FT_A) (N := 5) hx hb hts (hi_ in_A) hown hK hP 1 rfl rfl 0 (by decide) (ht_ hts mw78) (fun _ h9 => h9) rfl d_R_requirePoint_6 ?_
  refine rd_cv (va_runS (As := [.int x, .int 0, .int wX]) (rest := []) ⟨hx, hb, hml, hown, hts⟩ (c_R_requireWithin l x 0 wX h.1) (cwS 3 hts (gi_S mw141 mw139 mw140 mw30) rfl rfl rfl (by decide +kernel) ⟨Nat.le_of_ble_eq_true rfl, Nat.le_of_ble_eq_true rfl⟩) st_S rfl rfl hl.1 rfl (lv_room (Nat.le_of_ble_eq_true rfl)) d_R_requirePoint_9 ⟨Nat.le_of_ble_eq_true rfl, Nat.le_of_ble_eq_true rfl⟩) ?_
  refine lv_iload_n hx hb d_R_requirePoint_12 rfl (lv_at hl 2 rfl) ?_
  refine lv_iconst (v := 0) hx hb d_R_requirePoint_13 (by decide) ?_
  refine lv_aload_n hx hb d_R_requirePoint_14 rfl (lv_at hl 0 rfl) ?_
  refine va_get (D := (dC, dI)) (ci := 2) (v := .ref aY) (C := "RoomEchoes") (T := FT_R) (N := 9) hx hb hts (hi_ in_R) hown hK hP 0 rfl rfl 1 (by decide) (ht_ hts mw97) (fun _ h9 => h9) rfl d_R_requirePoint_15 ?_
  refine va_get (D := (dC, dI)) (ci := 0) (v := .int wY) (C := "RoomEchoes$Axis") (T := FT_A) (N := 5) hx hb hts (hi_ in_A) hown hK hP 2 rfl rfl 0 (by decide) (ht_ hts mw78) (fun _ h9 => h9) rfl d_R_requirePoint_18 ?_
  refine rd_cv (va_runS (As := [.int y, .int 0, .int wY]) (rest := []) ⟨hx, hb, hml, hown, hts⟩ (c_R_requireWithin l y 0 wY h.2.1) (cwS 3 hts (gi_S mw141 mw139 mw140 mw30) rfl rfl rfl (by decide +kernel) ⟨Nat.le_of_ble_eq_true rfl, Nat.le_of_ble_eq_true rfl⟩) st_S rfl rfl hl.1 rfl (lv_room (Nat.le_of_ble_eq_true rfl)) d_R_requirePoint_21 ⟨Nat.le_of_ble_eq_true rfl, Nat.le_of_ble_eq_true rfl⟩) ?_
  refine lv_iload_n hx hb d_R_requirePoint_24 rfl (lv_at hl 3 rfl) ?_
  refine lv_iconst (v := 0) hx hb d_R_requirePoint_25 (by decide) ?_
  refine lv_aload_n hx hb d_R_requirePoint_26 rfl (lv_at hl 0 rfl) ?_
  refine va_get (D := (dC, dI)) (ci := 2) (v := .ref aZ) (C := "RoomEchoes") (T := FT_R) (N := 9) hx hb hts (hi_ in_R) hown hK hP 0 rfl rfl 2 (by decide) (ht_ hts mw98) (fun _ h9 => h9) rfl d_R_requirePoint_27 ?_
  refine va_get (D := (dC, dI)) (ci := 0) (v := .int wZ) (C := "RoomEchoes$Axis") (T := FT_A) (N := 5) hx hb hts (hi_ in_A) hown hK hP 3 rfl rfl 0 (by decide) (ht_ hts mw78) (fun _ h9 => h9) rfl d_R_requirePoint_30 ?_
  refine rd_cv (va_runS (As := [.int z, .int 0, .int wZ]) (rest := []) ⟨hx, hb, hml, hown, hts⟩ (c_R_requireWithin l z 0 wZ h.2.2) (cwS 3 hts (gi_S mw141 mw139 mw140 mw30) rfl rfl rfl (by decide +kernel) ⟨Nat.le_of_ble_eq_true rfl, Nat.le_of_ble_eq_true rfl⟩) st_S rfl rfl hl.1 rfl (lv_room (Nat.le_of_ble_eq_true rfl)) d_R_requirePoint_33 ⟨Nat.le_of_ble_eq_true rfl, Nat.le_of_ble_eq_true rfl⟩) ?_
  exact W.vret hx hb hr (fun t ht hW => ⟨rfl, trivial, ht⟩) (fun q h => by cases h) d_R_requirePoint_36

set_option maxHeartbeats 4000000 in
set_option maxRecDepth 100000 in
theorem t_R_requirePoint (l : Launch) (hst : l.stackTraces = false) (dC : Nat → ClassId) (dI : Nat → Nat → Nat) (cI cL : ClassId) (sa1 sa2 : Nat) (aR : Nat) (aX : Nat) (aY : Nat) (aZ : Nat) (aK : Nat) (aF : Nat) (aE : Nat) (aL : Nat) (od : Int32) (wd : Int32) (wX : Int32) (sX : Int32) (tX : Int32) (rX : Nat) (kX : Nat) (wY : Int32) (sY : Int32) (tY : Int32) (rY : Nat) (kY : Nat) (wZ : Int32) (sZ : Int32) (tZ : Int32) (rZ : Nat) (kZ : Nat) (x : Int32) (y : Int32) (z : Int32) (h : ¬ (wpt wX wY wZ x y z)) : TX l y_R_requirePoint w_R_requirePoint ({ frames := 7, cells := 1, slots := 6, locals := 104 }) (tx_P (dC, dI) cI cL [(aR, .inr (2, [.ref aX, .ref aY, .ref aZ, .ref aK, .ref aF, .ref aE, .ref aL, .int od, .int wd])), (aX, .inr (0, [.int wX, .int sX, .int tX, .ref rX, .ref kX])), (aY, .inr (0, [.int wY, .int sY, .int tY, .ref rY, .ref kY])), (aZ, .inr (0, [.int wZ, .int sZ, .int tZ, .ref rZ, .ref kZ]))] sa1 sa2 [.ref aR, .int x, .int y, .int z]) := by
  refine vx_ofW (cc := b_R_requirePoint) (maxL := 4) (ret := none) (by decide) rfl ?_
  intro p e s m args below meth c s₁ B hml htab hv
  obtain ⟨rfl, hP, hM, hT⟩ := hv
  have hx := B.exec
  have hb := B.bytes
  have hr := B.returns
  have hts := atoms_spec (ws := w_R_requirePoint) B.pre
  have hown : s.vm.findClass "RoomEchoes" = some m.cls := findClass_of_methodNamed B.named
  have hlocks := B.notSynchronized
  have hK := hM.1
  have hl := lv_entry ([.ref aR, .int x, .int y, .int z]) (n := 4) (Nat.le_of_ble_eq_true rfl)
  rw [lg_entry_eq]
  generalize (lg_sl ([.ref aR, .int x, .int y, .int z]) ++ List.replicate (4 - (lg_sl ([.ref aR, .int x, .int y, .int z])).length) Slot.unset).toArray = ls at hl ⊢
  have hl : lv_has ls 4 [(0, .ref aR), (1, .int x), (2, .int y), (3, .int z)] := hl
  refine lv_iload_n hx hb d_R_requirePoint_0 rfl (lv_at hl 1 rfl) ?_
  refine lv_iconst (v := 0) hx hb d_R_requirePoint_1 (by decide) ?_
  refine lv_aload_n hx hb d_R_requirePoint_2 rfl (lv_at hl 0 rfl) ?_
  refine va_get (D := (dC, dI)) (ci := 2) (v := .ref aX) (C := "RoomEchoes") (T := FT_R) (N := 9) hx hb hts (hi_ in_R) hown hK hP 0 rfl rfl 0 (by decide) (ht_ hts mw96) (fun _ h9 => h9) rfl d_R_requirePoint_3 ?_
  refine va_get (D := (dC, dI)) (ci := 0) (v := .int wX) (C := "RoomEchoes$Axis") (T := FT_A) (N := 5) hx hb hts (hi_ in_A) hown hK hP 1 rfl rfl 0 (by decide) (ht_ hts mw78) (fun _ h9 => h9) rfl d_R_requirePoint_6 ?_
  by_cases q_9 : wi x 0 wX
  rotate_left
  · have hPc := hP.sub (ws' := []) [] rfl
    exact tx_out (vx_runS (As := [.int x, .int 0, .int wX]) (rest := []) ⟨hx, hb, hml, hown, hts⟩ (t_R_requireWithin l hst dC dI cI cL sa1 sa2 x 0 wX q_9) (cwS 3 hts (gi_S mw141 mw139 mw140 mw30) rfl rfl rfl (by decide +kernel) ⟨Nat.le_of_ble_eq_true rfl, Nat.le_of_ble_eq_true rfl⟩) (tx_S hM hPc hT) rfl rfl hl.1 rfl (lv_room (Nat.le_of_ble_eq_true rfl)) d_R_requirePoint_9 ⟨Nat.le_of_ble_eq_true rfl, Nat.le_of_ble_eq_true rfl⟩) htab hlocks
  refine rd_cv (va_runS (As := [.int x, .int 0, .int wX]) (rest := []) ⟨hx, hb, hml, hown, hts⟩ (c_R_requireWithin l x 0 wX q_9) (cwS 3 hts (gi_S mw141 mw139 mw140 mw30) rfl rfl rfl (by decide +kernel) ⟨Nat.le_of_ble_eq_true rfl, Nat.le_of_ble_eq_true rfl⟩) st_S rfl rfl hl.1 rfl (lv_room (Nat.le_of_ble_eq_true rfl)) d_R_requirePoint_9 ⟨Nat.le_of_ble_eq_true rfl, Nat.le_of_ble_eq_true rfl⟩) ?_
  refine lv_iload_n hx hb d_R_requirePoint_12 rfl (lv_at hl 2 rfl) ?_
  refine lv_iconst (v := 0) hx hb d_R_requirePoint_13 (by decide) ?_
  refine lv_aload_n hx hb d_R_requirePoint_14 rfl (lv_at hl 0 rfl) ?_
  refine va_get (D := (dC, dI)) (ci := 2) (v := .ref aY) (C := "RoomEchoes") (T := FT_R) (N := 9) hx hb hts (hi_ in_R) hown hK hP 0 rfl rfl 1 (by decide) (ht_ hts mw97) (fun _ h9 => h9) rfl d_R_requirePoint_15 ?_
  refine va_get (D := (dC, dI)) (ci := 0) (v := .int wY) (C := "RoomEchoes$Axis") (T := FT_A) (N := 5) hx hb hts (hi_ in_A) hown hK hP 2 rfl rfl 0 (by decide) (ht_ hts mw78) (fun _ h9 => h9) rfl d_R_requirePoint_18 ?_
  by_cases q_21 : wi y 0 wY
  rotate_left
  · have hPc := hP.sub (ws' := []) [] rfl
    exact tx_out (vx_runS (As := [.int y, .int 0, .int wY]) (rest := []) ⟨hx, hb, hml, hown, hts⟩ (t_R_requireWithin l hst dC dI cI cL sa1 sa2 y 0 wY q_21) (cwS 3 hts (gi_S mw141 mw139 mw140 mw30) rfl rfl rfl (by decide +kernel) ⟨Nat.le_of_ble_eq_true rfl, Nat.le_of_ble_eq_true rfl⟩) (tx_S hM hPc hT) rfl rfl hl.1 rfl (lv_room (Nat.le_of_ble_eq_true rfl)) d_R_requirePoint_21 ⟨Nat.le_of_ble_eq_true rfl, Nat.le_of_ble_eq_true rfl⟩) htab hlocks
  refine rd_cv (va_runS (As := [.int y, .int 0, .int wY]) (rest := []) ⟨hx, hb, hml, hown, hts⟩ (c_R_requireWithin l y 0 wY q_21) (cwS 3 hts (gi_S mw141 mw139 mw140 mw30) rfl rfl rfl (by decide +kernel) ⟨Nat.le_of_ble_eq_true rfl, Nat.le_of_ble_eq_true rfl⟩) st_S rfl rfl hl.1 rfl (lv_room (Nat.le_of_ble_eq_true rfl)) d_R_requirePoint_21 ⟨Nat.le_of_ble_eq_true rfl, Nat.le_of_ble_eq_true rfl⟩) ?_
  refine lv_iload_n hx hb d_R_requirePoint_24 rfl (lv_at hl 3 rfl) ?_
  refine lv_iconst (v := 0) hx hb d_R_requirePoint_25 (by decide) ?_
  refine lv_aload_n hx hb d_R_requirePoint_26 rfl (lv_at hl 0 rfl) ?_
  refine va_get (D := (dC, dI)) (ci := 2) (v := .ref aZ) (C := "RoomEchoes") (T := FT_R) (N := 9) hx hb hts (hi_ in_R) hown hK hP 0 rfl rfl 2 (by decide) (ht_ hts mw98) (fun _ h9 => h9) rfl d_R_requirePoint_27 ?_
  refine va_get (D := (dC, dI)) (ci := 0) (v := .int wZ) (C := "RoomEchoes$Axis") (T := FT_A) (N := 5) hx hb hts (hi_ in_A) hown hK hP 3 rfl rfl 0 (by decide) (ht_ hts mw78) (fun _ h9 => h9) rfl d_R_requirePoint_30 ?_
  by_cases q_33 : wi z 0 wZ
  rotate_left
  · have hPc := hP.sub (ws' := []) [] rfl
    exact tx_out (vx_runS (As := [.int z, .int 0, .int wZ]) (rest := []) ⟨hx, hb, hml, hown, hts⟩ (t_R_requireWithin l hst dC dI cI cL sa1 sa2 z 0 wZ q_33) (cwS 3 hts (gi_S mw141 mw139 mw140 mw30) rfl rfl rfl (by decide +kernel) ⟨Nat.le_of_ble_eq_true rfl, Nat.le_of_ble_eq_true rfl⟩) (tx_S hM hPc hT) rfl rfl hl.1 rfl (lv_room (Nat.le_of_ble_eq_true rfl)) d_R_requirePoint_33 ⟨Nat.le_of_ble_eq_true rfl, Nat.le_of_ble_eq_true rfl⟩) htab hlocks
  exact absurd (show wpt wX wY wZ x y z from ⟨q_9, q_21, q_33⟩) h
end
