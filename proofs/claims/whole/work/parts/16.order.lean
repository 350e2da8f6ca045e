/-! PURE: the order of the echoes as the class makes it: the first five hundred keys. -/
theorem nu_lt81 {i : Nat} (hi : i < 81) : ¬ nI i < 0 ∧ ¬ (81 : Int32) ≤ nI i := ⟨nI_pos (by omega), fun h => nu_81 (by omega) h hi⟩
theorem sqAt_eq {w s t : Int32} {f : Nat → Int64} (h : axrow w s t f) {i : Nat} (hi : i < 81) : j_A_squareAt f (nI i) = lN (ax_s f i) := by
  obtain ⟨a, b, -⟩ := h.1 i hi
  have c := (h.2.1.1 i hi).1
  unfold j_A_squareAt
  rw [if_neg (nu_lt81 hi).1, if_neg (nu_lt81 hi).2, nI_clamp (by omega), a, pf_shr (d := 7) (by decide) (by unfold ax_s at c; omega)]
  rfl
theorem numAt_eq {w s t : Int32} {f : Nat → Int64} (h : axrow w s t f) {i : Nat} (hi : i < 81) : j_A_numberAt f (nI i) = nz (ax_n f i) := by
  obtain ⟨a, b, -⟩ := h.1 i hi
  have c := (h.2.1.1 i hi).1
  unfold j_A_numberAt
  rw [if_neg (nu_lt81 hi).1, if_neg (nu_lt81 hi).2, nI_clamp (by omega), a, lni (by unfold ax_s at c; omega)]
  rfl
def kk3 (fX fY fZ : Nat → Int64) (i j m : Nat) : Nat := pu_k3 (ax_s fX i + ax_s fY j + ax_s fZ m) (ax_n fX i) (ax_n fY j) (ax_n fZ m)
section ORD
variable {wX sX tX wY sY tY wZ sZ tZ : Int32} {fX fY fZ : Nat → Int64}
theorem ax_sum (hX : axrow wX sX tX fX) (hY : axrow wY sY tY fY) (hZ : axrow wZ sZ tZ fZ) {i j m : Nat} (hi : i < 81) (hj : j < 81) (hm : m < 81) : ax_s fX i + ax_s fY j + ax_s fZ m < 6442450944 := by
  have a1 := (hX.2.1.1 i hi).1
  have a2 := (hY.2.1.1 j hj).1
  have a3 := (hZ.2.1.1 m hm).1
  omega
theorem adk_eq (hX : axrow wX sX tX fX) (hY : axrow wY sY tY fY) (hZ : axrow wZ sZ tZ fZ) {i j m : Nat} (hi : i < 81) (hj : j < 81) (hm : m < 81) : ad_key fX fY fZ i j m = lN (kk3 fX fY fZ i j m) := by
  unfold ad_key kk3
  rw [sqAt_eq hX hi, sqAt_eq hY hj, sqAt_eq hZ hm, numAt_eq hX hi, numAt_eq hY hj, numAt_eq hZ hm, lN_add, lN_add, key3 (ax_sum hX hY hZ hi hj hm) (hX.1 i hi).2.1 (hY.1 j hj).2.1 (hZ.1 m hm).2.1]
theorem adk_KK (hX : axrow wX sX tX fX) (hY : axrow wY sY tY fY) (hZ : axrow wZ sZ tZ fZ) : pu_KK 81 (ad_key fX fY fZ) := by
  obtain ⟨k1, k2, k3, k4⟩ := pu_KKof hX.2.1 hY.2.1 hZ.2.1
  refine ⟨?_, ?_, ?_, ?_⟩
  · intro i j m a b c hi hj hm ha hb hc e
    rw [adk_eq hX hY hZ hi hj hm, adk_eq hX hY hZ ha hb hc] at e
    exact k1 i j m a b c hi hj hm ha hb hc e
  · intro i j m hi hj hm
    rw [adk_eq hX hY hZ hi hj (by omega), adk_eq hX hY hZ hi hj hm]
    exact k2 i j m hi hj hm
  · intro i j hi hj
    rw [adk_eq hX hY hZ hi (by omega) (by omega), adk_eq hX hY hZ hi hj (by omega)]
    exact k3 i j hi hj
  · intro i hi
    rw [adk_eq hX hY hZ (by omega) (by omega) (by omega), adk_eq hX hY hZ hi (by omega) (by omega)]
    exact k4 i hi
theorem rk_ok {w s t : Int32} {f : Nat → Int64} (h : axrow w s t f) (k0 : Nat → Int32) : ∀ c, c ≤ 81 → ∀ i, i < c → j_rk f k0 c (ax_n f i) = nI i := by
  intro c
  induction c with
  | zero => intro _ i hi; omega
  | succ c ih =>
    intro hc i hi
    have b := (h.1 c (by omega)).2.1
    have e : j_A_numberAt f (nI c) + 40 = nI (ax_n f c) := by rw [numAt_eq h (by omega), nz_40 (by omega)]
    rw [j_rk_s, e, if_neg (nu_lt81 b).1, if_neg (nu_lt81 b).2, nI_clamp (by omega)]
    by_cases q : i = c
    · subst q
      exact pk_us
    · rw [pk_un (fun z => q (h.2.1.2.1 i c (by omega) (by omega) z))]
      exact ih (by omega) i (by omega)
theorem rank_of {w s t : Int32} {f : Nat → Int64} (h : axrow w s t f) (k0 : Nat → Int32) {i : Nat} (hi : i < 81) : j_A_rankOf (j_rk f k0 81) (nz (ax_n f i)) = nI i := by
  have b := (h.1 i hi).2.1
  unfold j_A_rankOf
  rw [nz_40 (by omega), if_neg (nu_lt81 b).1, if_neg (nu_lt81 b).2, nI_clamp (by omega)]
  exact rk_ok h k0 81 (Nat.le_refl _) i hi
theorem ad_ok {key : Int64} {i j m n : Nat} {f : Nat → Int64} (h1 : pu_hp n f) (h2 : pu_hi n f) (hx : i < 81 ∧ j < 81 ∧ m < 81 → ¬ pu_hs n f key) :
    pu_hp (ad_n i j m n) (ad_f key i j m n f) ∧ pu_hi (ad_n i j m n) (ad_f key i j m n f) ∧ ∀ v, pu_hs (ad_n i j m n) (ad_f key i j m n f) v ↔ pu_hs n f v ∨ ((i < 81 ∧ j < 81 ∧ m < 81) ∧ v = key) := by
  unfold ad_n ad_f
  by_cases c : i < 81 ∧ j < 81 ∧ m < 81
  · rw [if_pos c, if_pos c]
    obtain ⟨p1, p2, p3⟩ := pu_upall (key := key) (d := n + 1) (by omega) h1 h2 (hx c)
    exact ⟨p1, p2, fun v => (p3 v).trans ⟨fun z => z.imp id (fun q => ⟨c, q⟩), fun z => z.imp id (fun q => q.2)⟩⟩
  · rw [if_neg c, if_neg c]
    exact ⟨h1, h2, fun v => ⟨Or.inl, fun z => z.elim id (fun q => absurd q.1 c)⟩⟩
/-- what waits for a node that isn't out isn't in the heap -/
theorem fo_new {K : Nat → Nat → Nat → Int64} {E f : Nat → Int64} {k n a b c i j m : Nat} (hK : pu_KK 81 K) (h : pu_FI 81 K E f k n) (hi : i < 81) (hj : j < 81) (hm : m < 81) (ht : ¬ pu_tk K E k i j m) (ha : a < 81) (hb : b < 81) (hc : c < 81)
    (hw : (c ≠ 0 ∧ a = i ∧ b = j ∧ c - 1 = m) ∨ (c = 0 ∧ b ≠ 0 ∧ a = i ∧ b - 1 = j ∧ m = 0) ∨ (c = 0 ∧ b = 0 ∧ a ≠ 0 ∧ a - 1 = i ∧ j = 0 ∧ m = 0)) : ¬ pu_hs n f (K a b c) := by
  intro q
  obtain ⟨a', b', c', x1, x2, x3, x4, x5, x6⟩ := (h.2.2.2.2.2.1 _).mp q
  obtain ⟨rfl, rfl, rfl⟩ := hK.1 _ _ _ _ _ _ ha hb hc x1 x2 x3 x6
  apply ht
  rcases hw with ⟨w1, w2, w3, w4⟩ | ⟨w1, w2, w3, w4, w5⟩ | ⟨w1, w2, w3, w4, w5, w6⟩
  · rcases x5 with ⟨u1, u2⟩ | ⟨u1, u2, u3⟩ | ⟨u1, u2, u3, u4⟩ | ⟨u1, u2, u3⟩
    · rw [w2, w3, w4] at u2; exact u2
    · omega
    · omega
    · omega
  · rcases x5 with ⟨u1, u2⟩ | ⟨u1, u2, u3⟩ | ⟨u1, u2, u3, u4⟩ | ⟨u1, u2, u3⟩
    · omega
    · rw [w3, w4] at u3; rw [w5]; exact u3
    · omega
    · omega
  · rcases x5 with ⟨u1, u2⟩ | ⟨u1, u2, u3⟩ | ⟨u1, u2, u3, u4⟩ | ⟨u1, u2, u3⟩
    · omega
    · omega
    · rw [w4] at u4; rw [w5, w6]; exact u4
    · omega
/-- a step of the loop -/
theorem oe_step {E f : Nat → Int64} {k n i j m : Nat} (hK : pu_KK 81 (ad_key fX fY fZ)) (h : pu_FI 81 (ad_key fX fY fZ) E f k (n + 1)) (hi : i < 81) (hj : j < 81) (hm : m < 81) (hv : f 0 = ad_key fX fY fZ i j m) :
    pu_FI 81 (ad_key fX fY fZ) (vp_updL E k (f 0)) (fo_f fX fY fZ i j m n (pu_dn (f n) n (n + 1) 0 f)) (k + 1) (fo_n i j m n) := by
  obtain ⟨a0, b0, c0, x1, x2, x3, x4, x5, x6⟩ := (h.2.2.2.2.2.1 (f 0)).mp ⟨0, by omega, rfl⟩
  obtain ⟨rfl, rfl, rfl⟩ := hK.1 _ _ _ _ _ _ x1 x2 x3 hi hj hm (by rw [← x6, hv])
  obtain ⟨d1, d2, d3⟩ := pu_dnall (d := n + 1) (by omega) h.2.2.2.1 h.2.2.2.2.1
  generalize hf1 : pu_dn (f n) n (n + 1) 0 f = f1 at d1 d2 d3 ⊢
  have new : ∀ a b c, a < 81 → b < 81 → c < 81 → ((c ≠ 0 ∧ a = a0 ∧ b = b0 ∧ c - 1 = c0) ∨ (c = 0 ∧ b ≠ 0 ∧ a = a0 ∧ b - 1 = b0 ∧ c0 = 0) ∨ (c = 0 ∧ b = 0 ∧ a ≠ 0 ∧ a - 1 = a0 ∧ b0 = 0 ∧ c0 = 0)) → ¬ pu_hs n f1 (ad_key fX fY fZ a b c) := fun a b c ha hb hc hw q =>
    fo_new hK h hi hj hm x4 ha hb hc hw ((d3 _).mp q).1
  obtain ⟨e1, e2, e3⟩ := ad_ok (key := ad_key fX fY fZ a0 b0 (c0 + 1)) (i := a0) (j := b0) (m := c0 + 1) d1 d2 (fun q => new _ _ _ q.1 q.2.1 q.2.2 (Or.inl ⟨by omega, rfl, rfl, by omega⟩))
  have g2 : pu_hp (fo_n2 a0 b0 c0 n) (fo_f2 fX fY fZ a0 b0 c0 n f1) ∧ pu_hi (fo_n2 a0 b0 c0 n) (fo_f2 fX fY fZ a0 b0 c0 n f1) ∧ ∀ v, pu_hs (fo_n2 a0 b0 c0 n) (fo_f2 fX fY fZ a0 b0 c0 n f1) v ↔ (pu_hs n f1 v ∨ (c0 + 1 < 81 ∧ v = ad_key fX fY fZ a0 b0 (c0 + 1))) ∨ (c0 = 0 ∧ b0 + 1 < 81 ∧ v = ad_key fX fY fZ a0 (b0 + 1) 0) := by
    have e3' : ∀ v, pu_hs (fo_n1 a0 b0 c0 n) (fo_f1 fX fY fZ a0 b0 c0 n f1) v ↔ pu_hs n f1 v ∨ (c0 + 1 < 81 ∧ v = ad_key fX fY fZ a0 b0 (c0 + 1)) := fun v => (e3 v).trans ⟨fun z => z.imp id (fun q => ⟨q.1.2.2, q.2⟩), fun z => z.imp id (fun q => ⟨⟨hi, hj, q.1⟩, q.2⟩)⟩
    unfold fo_n2 fo_f2
    by_cases c : c0 = 0
    · rw [if_pos c, if_pos c]
      obtain ⟨y1, y2, y3⟩ := ad_ok (key := ad_key fX fY fZ a0 (b0 + 1) 0) (i := a0) (j := b0 + 1) (m := 0) (n := fo_n1 a0 b0 c0 n) (f := fo_f1 fX fY fZ a0 b0 c0 n f1) e1 e2 (fun q z => by
        rcases (e3' _).mp z with z | ⟨z1, z2⟩
        · exact new _ _ _ q.1 q.2.1 q.2.2 (Or.inr (Or.inl ⟨rfl, by omega, rfl, by omega, c⟩)) z
        · have := hK.1 _ _ _ _ _ _ q.1 q.2.1 q.2.2 hi hj z1 z2
          omega)
      exact ⟨y1, y2, fun v => (y3 v).trans ⟨fun z => z.imp (e3' v).mp (fun q => ⟨c, q.1.2.1, q.2⟩), fun z => z.imp (e3' v).mpr (fun q => ⟨⟨hi, q.2.1, by decide⟩, q.2.2⟩)⟩⟩
    · rw [if_neg c, if_neg c]
      exact ⟨e1, e2, fun v => (e3' v).trans ⟨Or.inl, fun z => z.elim id (fun q => absurd q.1 c)⟩⟩
  obtain ⟨y1, y2, y3⟩ := g2
  have g3 : pu_hp (fo_n a0 b0 c0 n) (fo_f fX fY fZ a0 b0 c0 n f1) ∧ pu_hi (fo_n a0 b0 c0 n) (fo_f fX fY fZ a0 b0 c0 n f1) ∧ ∀ v, pu_hs (fo_n a0 b0 c0 n) (fo_f fX fY fZ a0 b0 c0 n f1) v ↔ ((pu_hs n f1 v ∨ (c0 + 1 < 81 ∧ v = ad_key fX fY fZ a0 b0 (c0 + 1))) ∨ (c0 = 0 ∧ b0 + 1 < 81 ∧ v = ad_key fX fY fZ a0 (b0 + 1) 0)) ∨ (c0 = 0 ∧ b0 = 0 ∧ a0 + 1 < 81 ∧ v = ad_key fX fY fZ (a0 + 1) 0 0) := by
    unfold fo_n fo_f
    by_cases c : c0 = 0 ∧ b0 = 0
    · rw [if_pos c, if_pos c]
      obtain ⟨w1, w2, w3⟩ := ad_ok (key := ad_key fX fY fZ (a0 + 1) 0 0) (i := a0 + 1) (j := 0) (m := 0) y1 y2 (fun q z => by
        rcases (y3 _).mp z with (z | ⟨z1, z2⟩) | ⟨z0, z1, z2⟩
        · exact new _ _ _ q.1 q.2.1 q.2.2 (Or.inr (Or.inr ⟨rfl, rfl, by omega, by omega, c.2, c.1⟩)) z
        · have := hK.1 _ _ _ _ _ _ q.1 q.2.1 q.2.2 hi hj z1 z2
          omega
        · have := hK.1 _ _ _ _ _ _ q.1 q.2.1 q.2.2 hi z1 q.2.2 z2
          omega)
      exact ⟨w1, w2, fun v => (w3 v).trans ⟨fun z => z.imp (y3 v).mp (fun q => ⟨c.1, c.2, q.1.1, q.2⟩), fun z => z.imp (y3 v).mpr (fun q => ⟨⟨q.2.2.1, by decide, by decide⟩, q.2.2.2⟩)⟩⟩
    · rw [if_neg c, if_neg c]
      exact ⟨y1, y2, fun v => (y3 v).trans ⟨Or.inl, fun z => z.elim id (fun q => absurd ⟨q.1, q.2.1⟩ c)⟩⟩
  obtain ⟨w1, w2, w3⟩ := g3
  refine pu_step hK h a0 b0 c0 hi hj hm (by omega) hv w1 w2 ?_ (fun v => ?_)
  · have l1 := ad_le a0 b0 (c0 + 1) n
    have l2 := ad_le a0 (b0 + 1) 0 (fo_n1 a0 b0 c0 n)
    have l3 := ad_le (a0 + 1) 0 0 (fo_n2 a0 b0 c0 n)
    have m1 : fo_n1 a0 b0 c0 n ≤ n + 1 := l1.1
    have m2 : fo_n2 a0 b0 c0 n ≤ n + 2 := by unfold fo_n2; split <;> omega
    unfold fo_n
    split <;> omega
  · rw [w3 v, d3 v]
    constructor
    · rintro (((z | z) | z) | z)
      · exact Or.inl z
      · exact Or.inr (Or.inl z)
      · exact Or.inr (Or.inr (Or.inl z))
      · exact Or.inr (Or.inr (Or.inr z))
    · rintro (z | z | z | z)
      · exact Or.inl (Or.inl (Or.inl z))
      · exact Or.inl (Or.inl (Or.inr z))
      · exact Or.inl (Or.inr z)
      · exact Or.inr z
/-- the loop's start -/
theorem oe_zero (E f : Nat → Int64) : pu_FI 81 (ad_key fX fY fZ) E (ad_f (ad_key fX fY fZ 0 0 0) 0 0 0 0 f) 0 (ad_n 0 0 0 0) := by
  obtain ⟨e1, e2, e3⟩ := ad_ok (key := ad_key fX fY fZ 0 0 0) (i := 0) (j := 0) (m := 0) (n := 0) (f := f) (fun i _ h => by omega) (fun i j h => by omega) (fun _ ⟨i, h, _⟩ => by omega)
  refine ⟨fun t ht => by omega, fun a b _ h => by omega, fun _ _ _ _ _ _ _ t ht => by omega, e1, e2, fun v => ?_, (ad_le 0 0 0 0).1⟩
  rw [e3 v]
  constructor
  · rintro (⟨i, h, _⟩ | ⟨-, h⟩)
    · omega
    · exact ⟨0, 0, 0, by decide, by decide, by decide, fun ⟨t, ht, _⟩ => by omega, Or.inr (Or.inr (Or.inr ⟨rfl, rfl, rfl⟩)), h⟩
  · rintro ⟨a, b, c, h1, h2, h3, h4, h5, h6⟩
    rcases h5 with ⟨u1, t, ht, _⟩ | ⟨u1, u2, t, ht, _⟩ | ⟨u1, u2, u3, t, ht, _⟩ | ⟨u1, u2, u3⟩
    · omega
    · omega
    · omega
    · subst u1; subst u2; subst u3
      exact Or.inr ⟨⟨by decide, by decide, by decide⟩, h6⟩
end ORD
/-- the loop of orderEchoes: echoes, heap, its size behind k steps -/
def oe (fX fY fZ : Nat → Int64) (gX gY gZ : Nat → Int32) (E f : Nat → Int64) : Nat → (Nat → Int64) × (Nat → Int64) × Nat
  | 0 => (E, ad_f (ad_key fX fY fZ 0 0 0) 0 0 0 0 f, ad_n 0 0 0 0)
  | k + 1 => (vp_updL (oe fX fY fZ gX gY gZ E f k).1 k ((oe fX fY fZ gX gY gZ E f k).2.1 0),
      fo_f fX fY fZ (j_A_rankOf gX (j_R_firstNumberIn ((oe fX fY fZ gX gY gZ E f k).2.1 0))).toNatClampNeg (j_A_rankOf gY (j_R_secondNumberIn ((oe fX fY fZ gX gY gZ E f k).2.1 0))).toNatClampNeg (j_A_rankOf gZ (j_R_thirdNumberIn ((oe fX fY fZ gX gY gZ E f k).2.1 0))).toNatClampNeg ((oe fX fY fZ gX gY gZ E f k).2.2 - 1)
        (pu_dn ((oe fX fY fZ gX gY gZ E f k).2.1 ((oe fX fY fZ gX gY gZ E f k).2.2 - 1)) ((oe fX fY fZ gX gY gZ E f k).2.2 - 1) ((oe fX fY fZ gX gY gZ E f k).2.2 - 1 + 1) 0 (oe fX fY fZ gX gY gZ E f k).2.1),
      fo_n (j_A_rankOf gX (j_R_firstNumberIn ((oe fX fY fZ gX gY gZ E f k).2.1 0))).toNatClampNeg (j_A_rankOf gY (j_R_secondNumberIn ((oe fX fY fZ gX gY gZ E f k).2.1 0))).toNatClampNeg (j_A_rankOf gZ (j_R_thirdNumberIn ((oe fX fY fZ gX gY gZ E f k).2.1 0))).toNatClampNeg ((oe fX fY fZ gX gY gZ E f k).2.2 - 1))
/-- what the loop finds at its head: the least is a node, its ranks are told back, there is room -/
theorem oe_head {wX sX tX wY sY tY wZ sZ tZ : Int32} {fX fY fZ E f : Nat → Int64} {k n : Nat} (hX : axrow wX sX tX fX) (hY : axrow wY sY tY fY) (hZ : axrow wZ sZ tZ fZ) (h : pu_FI 81 (ad_key fX fY fZ) E f k n) (hk : k < 500) (x y z : Nat → Int32) :
    ∃ n' i j m, n = n' + 1 ∧ n' + 2 < 1001 ∧ i < 81 ∧ j < 81 ∧ m < 81 ∧ f 0 = ad_key fX fY fZ i j m ∧ j_A_rankOf (j_rk fX x 81) (j_R_firstNumberIn (f 0)) = nI i ∧ j_A_rankOf (j_rk fY y 81) (j_R_secondNumberIn (f 0)) = nI j ∧ j_A_rankOf (j_rk fZ z 81) (j_R_thirdNumberIn (f 0)) = nI m := by
  obtain ⟨h0, i, j, m, hi, hj, hm, hv⟩ := pu_more (adk_KK hX hY hZ) h (by decide) (by omega)
  have hn := h.2.2.2.2.2.2
  have d := ax_sum hX hY hZ hi hj hm
  refine ⟨n - 1, i, j, m, by omega, by omega, hi, hj, hm, hv, ?_, ?_, ?_⟩
  · rw [hv, adk_eq hX hY hZ hi hj hm, kk3, k3_first d (hX.1 i hi).2.1 (hY.1 j hj).2.1 (hZ.1 m hm).2.1]
    exact rank_of hX x hi
  · rw [hv, adk_eq hX hY hZ hi hj hm, kk3, k3_second d (hX.1 i hi).2.1 (hY.1 j hj).2.1 (hZ.1 m hm).2.1]
    exact rank_of hY y hj
  · rw [hv, adk_eq hX hY hZ hi hj hm, kk3, k3_third d (hX.1 i hi).2.1 (hY.1 j hj).2.1 (hZ.1 m hm).2.1]
    exact rank_of hZ z hm
theorem oe_next {fX fY fZ E0 f0 E f : Nat → Int64} {gX gY gZ : Nat → Int32} {k n i j m : Nat} (hq : oe fX fY fZ gX gY gZ E0 f0 k = (E, f, n + 1)) (hi : i < 81) (hj : j < 81) (hm : m < 81) (r1 : j_A_rankOf gX (j_R_firstNumberIn (f 0)) = nI i) (r2 : j_A_rankOf gY (j_R_secondNumberIn (f 0)) = nI j) (r3 : j_A_rankOf gZ (j_R_thirdNumberIn (f 0)) = nI m) :
    oe fX fY fZ gX gY gZ E0 f0 (k + 1) = (vp_updL E k (f 0), fo_f fX fY fZ i j m n (pu_dn (f n) n (n + 1) 0 f), fo_n i j m n) := by
  rw [oe, hq]
  dsimp only
  rw [r1, r2, r3, nI_clamp (by omega), nI_clamp (by omega), nI_clamp (by omega), Nat.add_sub_cancel]
