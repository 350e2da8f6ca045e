/-! THE FIRST FIVE HUNDRED: what both sides must hold -/
/-- the distance of an image, by raised numbers -/
def dst (wX sX tX wY sY tY wZ sZ tZ : Int32) (a b c : Nat) : Nat := sqn wX sX tX ((a : Int) - 40) + sqn wY sY tY ((b : Int) - 40) + sqn wZ sZ tZ ((c : Int) - 40)
def ekey (wX sX tX wY sY tY wZ sZ tZ : Int32) (a b c : Nat) : Nat := pu_k3 (dst wX sX tX wY sY tY wZ sZ tZ a b c) a b c
def ES (wX sX tX wY sY tY wZ sZ tZ : Int32) (E : Nat → Int64) : Prop :=
  (∀ k, k < 500 → ∃ a b c, a < 81 ∧ b < 81 ∧ c < 81 ∧ E k = lN (ekey wX sX tX wY sY tY wZ sZ tZ a b c)) ∧ (∀ k j, k < j → j < 500 → E k < E j) ∧
  ∀ a b c, a < 81 → b < 81 → c < 81 → (∃ k, k < 500 ∧ E k = lN (ekey wX sX tX wY sY tY wZ sZ tZ a b c)) ∨ ∀ k, k < 500 → E k < lN (ekey wX sX tX wY sY tY wZ sZ tZ a b c)
theorem dst_bd {wX sX tX wY sY tY wZ sZ tZ : Int32} {a b c : Nat} (hX : axok wX sX tX) (hY : axok wY sY tY) (hZ : axok wZ sZ tZ) (ha : a < 81) (hb : b < 81) (hc : c < 81) : dst wX sX tX wY sY tY wZ sZ tZ a b c < 6442450944 := by
  have b1 := sqn_bd hX (z := (a : Int) - 40) (by omega) (by omega)
  have b2 := sqn_bd hY (z := (b : Int) - 40) (by omega) (by omega)
  have b3 := sqn_bd hZ (z := (c : Int) - 40) (by omega) (by omega)
  unfold dst
  omega
theorem ES_of {wX sX tX wY sY tY wZ sZ tZ : Int32} {fX fY fZ E f : Nat → Int64} {n : Nat} (hX : axrow wX sX tX fX) (hY : axrow wY sY tY fY) (hZ : axrow wZ sZ tZ fZ) (h : pu_FI 81 (ad_key fX fY fZ) E f 500 n) : ES wX sX tX wY sY tY wZ sZ tZ E := by
  have ek : ∀ i j m, i < 81 → j < 81 → m < 81 → ad_key fX fY fZ i j m = lN (ekey wX sX tX wY sY tY wZ sZ tZ (ax_n fX i) (ax_n fY j) (ax_n fZ m)) := by
    intro i j m hi hj hm
    rw [adk_eq hX hY hZ hi hj hm, kk3, ekey, dst, (hX.1 i hi).2.2, (hY.1 j hj).2.2, (hZ.1 m hm).2.2]
  refine ⟨fun k hk => ?_, h.2.1, fun a b c ha hb hc => ?_⟩
  · obtain ⟨i, j, m, hi, hj, hm, e⟩ := h.1 k hk
    exact ⟨_, _, _, (hX.1 i hi).2.1, (hY.1 j hj).2.1, (hZ.1 m hm).2.1, by rw [e, ek i j m hi hj hm]⟩
  · obtain ⟨i, hi, e1⟩ := hX.2.2 a ha
    obtain ⟨j, hj, e2⟩ := hY.2.2 b hb
    obtain ⟨m, hm, e3⟩ := hZ.2.2 c hc
    have e := ek i j m hi hj hm
    rw [e1, e2, e3] at e
    by_cases q : pu_tk (ad_key fX fY fZ) E 500 i j m
    · obtain ⟨t, ht, et⟩ := q
      exact Or.inl ⟨t, ht, by rw [et, e]⟩
    · right
      rw [← e]
      exact h.2.2.1 i j m hi hj hm q
/-- there is only one such row -/
theorem ES_one {wX sX tX wY sY tY wZ sZ tZ : Int32} {E F : Nat → Int64} (h1 : ES wX sX tX wY sY tY wZ sZ tZ E) (h2 : ES wX sX tX wY sY tY wZ sZ tZ F) : ∀ k, k < 500 → E k = F k := by
  have key : ∀ {E F : Nat → Int64}, ES wX sX tX wY sY tY wZ sZ tZ E → ES wX sX tX wY sY tY wZ sZ tZ F → ∀ k, k < 500 → (∀ j, j < k → E j = F j) → ¬ F k < E k := by
    intro E F h1 h2 k hk ih hlt
    obtain ⟨a, b, c, ha, hb, hc, e⟩ := h2.1 k hk
    rcases h1.2.2 a b c ha hb hc with ⟨t, ht, et⟩ | q
    · rw [← e] at et
      rcases Nat.lt_trichotomy t k with z | z | z
      · have := h2.2.1 t k z hk
        rw [← ih t z, et, pu_lt] at this
        omega
      · subst z
        rw [et, pu_lt] at hlt
        omega
      · have := h1.2.1 k t z ht
        rw [et] at this
        rw [pu_lt] at this hlt
        omega
    · rw [← e] at q
      have z := q 499 (by decide)
      by_cases hz : k = 499
      · subst hz
        rw [pu_lt] at z hlt
        omega
      · have y := h1.2.1 k 499 (by omega) (by decide)
        rw [pu_lt] at z hlt y
        omega
  intro k
  induction k using Nat.strongRecOn with
  | _ k ih =>
    intro hk
    have a := key h1 h2 k hk (fun j hj => ih j hj (by omega))
    have b := key h2 h1 k hk (fun j hj => (ih j hj (by omega)).symm)
    apply l_inj
    rw [pu_lt] at a b
    omega
/-- the loudness of echo k, as the class holds it -/
def lou (kp : Nat → Int32) (E : Nat → Int64) (k : Nat) : Int64 := j_R_loudnessOf (j_R_strengthOf kp (j_R_firstNumberIn (E k)) (j_R_secondNumberIn (E k)) (j_R_thirdNumberIn (E k))) (j_R_distanceIn (E k))
def kpok (kp : Nat → Int32) : Prop := ∀ i, i < 6 → 0 ≤ (kp i).toInt ∧ (kp i).toInt ≤ 1000
/-- an object of the class between two calls -/
def RI (wX sX tX wY sY tY wZ sZ tZ : Int32) (kp : Nat → Int32) (E G : Nat → Int64) (od wd : Int32) : Prop :=
  axok wX sX tX ∧ axok wY sY tY ∧ axok wZ sZ tZ ∧ kpok kp ∧ (od = 0 ∨ (od = 1 ∧ ES wX sX tX wY sY tY wZ sZ tZ E)) ∧ (wd = 0 ∨ (wd = 1 ∧ od = 1 ∧ ∀ k, k < 500 → G k = lou kp E k))
section WX
variable {p : Program} {l : Launch} {e : Env} {R : Room} {s : State} {m : MethodId} {args : Array Value} {below : List Frame} {meth : Method} {c : Code} {H H0 : Heap} {locs : List Loc} {cells slots : Nat} {Q : State → Prop}
variable {D : va_G} {ws wc wr : va_W} {A0 : Nat → Prop} {pc mc ms : Nat} {ls : Array Slot} {rest st0 : List Value} {a : Array Value}
theorem wx_join {w1 : va_W} {H1 : Heap} {t : State} (hP : va_P D vwCl ws H) (hD : va_D A0 ws) (hS : va_S A0 H0 H locs) (hA : ∀ q, H0.size ≤ q → A0 q) (isC isR : List Nat) (hC : isC.map (fun i => ws[i]?) = wc.map some) (hR : isR.map (fun i => ws[i]?) = wr.map some) (hn : va_nd isR = true) (hdis : ∀ i ∈ isR, i ∉ isC)
    (ht : t.heap = H1) (hk : ∀ q : Nat, q < H.size → ¬ va_A wc H.size q → H1[q]? = H[q]?) (hP1 : va_P D vwCl w1 t.heap) (hD1 : va_D (va_A wc H.size) w1) : va_P D vwCl (wr ++ w1) H1 ∧ va_D A0 (wr ++ w1) := by
  rw [ht] at hP1
  exact va_join hP hD isC isR hC hR hn hdis hk (va_free hD hS hA isC hC) hP1 hD1
theorem wx_cv {S : Type} {post : S → Prop} {w1 : S → va_W} (hP : va_P D vwCl ws H) (hD : va_D A0 ws) (hS : va_S A0 H0 H locs) (hA : ∀ q, H0.size ≤ q → A0 q) (isC isR : List Nat) (hC : isC.map (fun i => ws[i]?) = wc.map some) (hR : isR.map (fun i => ws[i]?) = wr.map some) (hn : va_nd isR = true) (hdis : ∀ i ∈ isR, i ∉ isC)
    (hr : va_Run p l e R s m args below meth c H locs cells slots mc ms (F0 m pc ls st0) rest (va_Qv post (fun u t => va_P D vwCl (w1 u) t.heap ∧ va_D (va_A wc H.size) (w1 u)) (va_A wc H.size) a) (va_A wc H.size))
    (kk : ∀ (u : S) (H1 : Heap) (locs1 : List Loc), post u → va_P D vwCl (wr ++ w1 u) H1 → va_D A0 (wr ++ w1 u) → va_S A0 H0 H1 locs1 → W p l e R s m args below meth c H1 locs1 (cells + mc) (slots + ms) Q (F0 m (pc + 3) ls rest)) : W p l e R s m args below meth c H locs cells slots Q (F0 m pc ls st0) := by
  have hF := va_free hD hS hA isC hC
  refine va_callv hr hS (fun q _ h => hF q h) hF (fun u t H1 locs1 ht hvm hw hB hz1 hk1 hS1 => ?_)
  obtain ⟨hP1, hD1⟩ := wx_join hP hD hS hA isC isR hC hR hn hdis ht hk1 hB.1 hB.2
  exact kk u H1 locs1 hw hP1 hD1 hS1
theorem wx_ci {S : Type} {post : Int32 → S → Prop} {w1 : S → va_W} (hP : va_P D vwCl ws H) (hD : va_D A0 ws) (hS : va_S A0 H0 H locs) (hA : ∀ q, H0.size ≤ q → A0 q) (isC isR : List Nat) (hC : isC.map (fun i => ws[i]?) = wc.map some) (hR : isR.map (fun i => ws[i]?) = wr.map some) (hn : va_nd isR = true) (hdis : ∀ i ∈ isR, i ∉ isC)
    (hr : va_Run p l e R s m args below meth c H locs cells slots mc ms (F0 m pc ls st0) rest (va_Qi post (fun u t => va_P D vwCl (w1 u) t.heap ∧ va_D (va_A wc H.size) (w1 u)) (va_A wc H.size) a) (va_A wc H.size))
    (kk : ∀ (r : Int32) (u : S) (H1 : Heap) (locs1 : List Loc), post r u → va_P D vwCl (wr ++ w1 u) H1 → va_D A0 (wr ++ w1 u) → va_S A0 H0 H1 locs1 → W p l e R s m args below meth c H1 locs1 (cells + mc) (slots + ms) Q (F0 m (pc + 3) ls (.int r :: rest))) : W p l e R s m args below meth c H locs cells slots Q (F0 m pc ls st0) := by
  have hF := va_free hD hS hA isC hC
  refine va_calli hr hS (fun q _ h => hF q h) hF (fun r u t H1 locs1 ht hvm hw hB hz1 hk1 hS1 => ?_)
  obtain ⟨hP1, hD1⟩ := wx_join hP hD hS hA isC isR hC hR hn hdis ht hk1 hB.1 hB.2
  exact kk r u H1 locs1 hw hP1 hD1 hS1
theorem wx_cl {S : Type} {post : Int64 → S → Prop} {w1 : S → va_W} (hP : va_P D vwCl ws H) (hD : va_D A0 ws) (hS : va_S A0 H0 H locs) (hA : ∀ q, H0.size ≤ q → A0 q) (isC isR : List Nat) (hC : isC.map (fun i => ws[i]?) = wc.map some) (hR : isR.map (fun i => ws[i]?) = wr.map some) (hn : va_nd isR = true) (hdis : ∀ i ∈ isR, i ∉ isC)
    (hr : va_Run p l e R s m args below meth c H locs cells slots mc ms (F0 m pc ls st0) rest (va_Ql post (fun u t => va_P D vwCl (w1 u) t.heap ∧ va_D (va_A wc H.size) (w1 u)) (va_A wc H.size) a) (va_A wc H.size))
    (kk : ∀ (r : Int64) (u : S) (H1 : Heap) (locs1 : List Loc), post r u → va_P D vwCl (wr ++ w1 u) H1 → va_D A0 (wr ++ w1 u) → va_S A0 H0 H1 locs1 → W p l e R s m args below meth c H1 locs1 (cells + mc) (slots + ms) Q (F0 m (pc + 3) ls (.long r :: rest))) : W p l e R s m args below meth c H locs cells slots Q (F0 m pc ls st0) := by
  have hF := va_free hD hS hA isC hC
  refine va_calll hr hS (fun q _ h => hF q h) hF (fun r u t H1 locs1 ht hvm hw hB hz1 hk1 hS1 => ?_)
  obtain ⟨hP1, hD1⟩ := wx_join hP hD hS hA isC isR hC hR hn hdis ht hk1 hB.1 hB.2
  exact kk r u H1 locs1 hw hP1 hD1 hS1
end WX
