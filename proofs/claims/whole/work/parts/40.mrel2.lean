/-! SUMS, EUCLID, PLACES -/
theorem js_s (f : Nat → Int64) (a n : Nat) : j_sum f a (n + 1) = j_sum f a n + f (a + n) := rfl
theorem js_bd {L : Nat → Int64} (h : ∀ i, i < 500 → 0 ≤ (L i).toInt ∧ (L i).toInt ≤ 1000000000) : ∀ n, n ≤ 500 → 0 ≤ (j_sum L 0 n).toInt ∧ (j_sum L 0 n).toInt ≤ n * 1000000000 := by
  intro n
  induction n with
  | zero => intro _; exact ⟨show (0 : Int) ≤ (0 : Int64).toInt by decide, show (0 : Int64).toInt ≤ ((0 : Nat) : Int) * 1000000000 by decide⟩
  | succ n ih =>
    intro hn
    have i1 := ih (by omega)
    have b := h n (by omega)
    rw [js_s, Nat.zero_add, l_add (by omega) (by omega)]
    omega
theorem js_int {L : Nat → Int64} (h : ∀ i, i < 500 → 0 ≤ (L i).toInt ∧ (L i).toInt ≤ 1000000000) {n : Nat} (hn : n < 500) : (j_sum L 0 (n + 1)).toInt = (j_sum L 0 n).toInt + (L n).toInt := by
  have i1 := js_bd h n (by omega)
  have b := h n hn
  rw [js_s, Nat.zero_add, l_add (by omega) (by omega)]
theorem js_mono {L : Nat → Int64} (h : ∀ i, i < 500 → 0 ≤ (L i).toInt ∧ (L i).toInt ≤ 1000000000) {m : Nat} : ∀ n, m ≤ n → n ≤ 500 → (j_sum L 0 m).toInt ≤ (j_sum L 0 n).toInt := by
  intro n
  induction n with
  | zero => intro h1 _; rw [show m = 0 by omega]; exact Int.le_refl _
  | succ n ih =>
    intro h1 h2
    by_cases q : m = n + 1
    · rw [q]; exact Int.le_refl _
    · have := ih (by omega) (by omega)
      have b := h n (by omega)
      rw [js_int h (by omega)]
      omega
theorem js_ext {f g : Nat → Int64} {a : Nat} : ∀ n, (∀ i, i < n → f (a + i) = g (a + i)) → j_sum f a n = j_sum g a n := by
  intro n
  induction n with
  | zero => intro _; rfl
  | succ n ih => intro h; rw [js_s, js_s, ih (fun i hi => h i (by omega)), h n (by omega)]
theorem js_add (f : Nat → Int64) (a : Nat) : ∀ n, j_sum f 0 (a + n) = j_sum f 0 a + j_sum f a n := by
  intro n
  induction n with
  | zero => exact (Int64.add_zero _).symm
  | succ n ih => rw [← Nat.add_assoc, js_s, ih, js_s, Nat.zero_add, Int64.add_assoc]
theorem js_sub (f : Nat → Int64) {a m : Nat} (h : a ≤ m) : j_sum f 0 m - j_sum f 0 a = j_sum f a (m - a) := by
  have e := js_add f a (m - a)
  rw [show a + (m - a) = m by omega] at e
  rw [e, Int64.add_comm, Int64.add_sub_cancel]
/-- Euclid -/
theorem gc_0 (x : Int64) : ∀ f, j_gcd f x 0 = x := by
  intro f
  cases f with
  | zero => rfl
  | succ f => exact if_pos rfl
theorem gc_s {f : Nat} {x y : Int64} (h : ¬ y = 0) : j_gcd (f + 1) x y = j_gcd f y (x - x / y * y) := if_neg h
theorem gc_ne : ∀ (f : Nat) (x y : Int64), x ≠ 0 → j_gcd f x y ≠ 0 := by
  intro f
  induction f with
  | zero => intro x y h; exact h
  | succ f ih =>
    intro x y h
    by_cases q : y = 0
    · rw [q, gc_0]; exact h
    · rw [gc_s q]; exact ih _ _ q
theorem lrem_int (x y : Int64) : (x - x / y * y).toInt = x.toInt.tmod y.toInt := Jvm.Kit.i64_rem x y
theorem gc_step {x y : Int64} {f : Nat} (h0 : 0 ≤ y.toInt) (h1 : y.toInt ≤ x.toInt) (hy : ¬ y = 0) (hb : x.toInt.toNat * y.toInt.toNat < 2 ^ f) : ∃ g, f = g + 1 ∧ 0 ≤ (x - x / y * y).toInt ∧ (x - x / y * y).toInt ≤ y.toInt ∧ y.toInt.toNat * (x - x / y * y).toInt.toNat < 2 ^ g := by
  have yp : 0 < y.toInt := by
    have : y.toInt ≠ 0 := fun q => hy (l_inj (by rw [q]; rfl))
    omega
  have e : (x - x / y * y).toInt = x.toInt % y.toInt := by rw [lrem_int, Int.tmod_eq_emod_of_nonneg (by omega)]
  have r0 := Int.emod_nonneg x.toInt (show y.toInt ≠ 0 by omega)
  have r1 := Int.emod_lt_of_pos x.toInt yp
  have d := Int.emod_add_mul_ediv x.toInt y.toInt
  have q1 : 1 ≤ x.toInt / y.toInt := Int.le_ediv_of_mul_le yp (by omega)
  have m1 : y.toInt * 1 ≤ y.toInt * (x.toInt / y.toInt) := Int.mul_le_mul_of_nonneg_left q1 (by omega)
  rw [e]
  generalize x.toInt % y.toInt = r at *
  have hr : 2 * r < x.toInt := by omega
  have X : 0 < x.toInt.toNat * y.toInt.toNat := Nat.mul_pos (by omega) (by omega)
  have f1 : f ≠ 0 := fun q => by rw [q] at hb; omega
  obtain ⟨g, rfl⟩ : ∃ g, f = g + 1 := ⟨f - 1, by omega⟩
  refine ⟨g, rfl, r0, by omega, ?_⟩
  have n1 : 2 * r.toNat ≤ x.toInt.toNat := by omega
  have n2 : y.toInt.toNat * (2 * r.toNat) ≤ y.toInt.toNat * x.toInt.toNat := Nat.mul_le_mul_left _ n1
  rw [Nat.mul_comm y.toInt.toNat x.toInt.toNat, Nat.mul_left_comm] at n2
  rw [Nat.pow_succ] at hb
  omega
/-- where a key stands -/
def j_mp (as bs cs : Nat → Int32) (a b c : Int32) : Nat → Nat → Int32 → Int32
  | 0, _, r => r
  | n + 1, i, r => j_mp as bs cs a b c n (i + 1) (if as i = a ∧ bs i = b ∧ cs i = c then nI i else r)
theorem mp_no {as bs cs : Nat → Int32} {a b c : Int32} : ∀ n i r, (∀ k, i ≤ k → k < i + n → ¬ (as k = a ∧ bs k = b ∧ cs k = c)) → j_mp as bs cs a b c n i r = r := by
  intro n
  induction n with
  | zero => intro i r _; rfl
  | succ n ih =>
    intro i r h
    show j_mp as bs cs a b c n (i + 1) _ = r
    rw [if_neg (h i (by omega) (by omega))]
    exact ih _ _ (fun k h1 h2 => h k (by omega) (by omega))
theorem mp_pl {as bs cs : Nat → Int32} {a b c : Int32} {E : Nat → Int64} {key : Int64} (hi : ∀ j k, j < k → k < 500 → E j < E k) (hm : ∀ k, k < 500 → ((as k = a ∧ bs k = b ∧ cs k = c) ↔ E k = key)) : ∀ n i, i + n = 500 → j_mp as bs cs a b c n i (-1) = j_pl E key n i := by
  intro n
  induction n with
  | zero => intro i _; rfl
  | succ n ih =>
    intro i h
    show j_mp as bs cs a b c n (i + 1) (if as i = a ∧ bs i = b ∧ cs i = c then nI i else -1) = if E i = key then nI i else j_pl E key n (i + 1)
    by_cases q : E i = key
    · rw [if_pos q, if_pos ((hm i (by omega)).mpr q)]
      refine mp_no n (i + 1) _ (fun k h1 h2 z => ?_)
      have e := (hm k (by omega)).mp z
      have := hi i k (by omega) (by omega)
      rw [e, q, pu_lt] at this
      omega
    · rw [if_neg q, if_neg (fun z => q ((hm i (by omega)).mp z))]
      exact ih (i + 1) (by omega)
theorem nz_inj {a b : Nat} (ha : a < 81) (hb : b < 81) (h : nz a = nz b) : a = b := by
  have e1 := nz_int (a := a) (by omega)
  have e2 := nz_int (a := b) (by omega)
  rw [h] at e1
  omega
theorem key_at {zs sc li : Nat → Int32} {E : Nat → Int64} {a b c : Int32} (h : ax3k zs sc li) (hE : ESz zs sc li E) (hn : wn3 a b c) {k : Nat} (hk : k < 500) :
    (j_R_firstNumberIn (E k) = a ∧ j_R_secondNumberIn (E k) = b ∧ j_R_thirdNumberIn (E k) = c) ↔ E k = j_R_keyOf (j_R_distanceOf (zs 0) (sc 0) (li 0) (zs 1) (sc 1) (li 1) (zs 2) (sc 2) (li 2) a b c) a b c := by
  obtain ⟨x, y, z, hx, hy, hz, e⟩ := hE.1 k hk
  have hd := dst_bd (h 0 (by decide)) (h 1 (by decide)) (h 2 (by decide)) hx hy hz
  have d9 := es_dist h hE hk
  have key : j_R_keyOf (lN (dst (zs 0) (sc 0) (li 0) (zs 1) (sc 1) (li 1) (zs 2) (sc 2) (li 2) x y z)) (nz x) (nz y) (nz z) = E k := by rw [key3 hd hx hy hz, e]; rfl
  have f1 : j_R_firstNumberIn (E k) = nz x := by rw [e]; exact k3_first hd hx hy hz
  have f2 : j_R_secondNumberIn (E k) = nz y := by rw [e]; exact k3_second hd hx hy hz
  have f3 : j_R_thirdNumberIn (E k) = nz z := by rw [e]; exact k3_third hd hx hy hz
  have f4 : j_R_distanceIn (E k) = lN (dst (zs 0) (sc 0) (li 0) (zs 1) (sc 1) (li 1) (zs 2) (sc 2) (li 2) x y z) := by rw [e]; exact k3_dist hd hx hy hz
  constructor
  · rintro ⟨h1, h2, h3⟩
    rw [h1, h2, h3] at d9
    rw [d9, f4, ← h1, ← h2, ← h3, f1, f2, f3, key]
  · intro q
    obtain ⟨dd, g1, -, g3⟩ := dst_two h hn
    have n1 : ∀ w : Int32, wi w (-40) 40 → w = nz (w.toInt + 40).toNat ∧ (w.toInt + 40).toNat < 81 := by
      intro w hw
      obtain ⟨b1, b2, b3⟩ := wi40 hw
      exact ⟨i_inj (by rw [nz_int (by omega)]; omega), by omega⟩
    obtain ⟨a1, a2⟩ := n1 a hn.1
    obtain ⟨b1, b2⟩ := n1 b hn.2.1
    obtain ⟨c1, c2⟩ := n1 c hn.2.2
    rw [g3] at q
    generalize (a.toInt + 40).toNat = a' at a1 a2
    generalize (b.toInt + 40).toNat = b' at b1 b2
    generalize (c.toInt + 40).toNat = c' at c1 c2
    subst a1
    subst b1
    subst c1
    rw [key3 g1 a2 b2 c2] at q
    rw [q]
    exact ⟨k3_first g1 a2 b2 c2, k3_second g1 a2 b2 c2, k3_third g1 a2 b2 c2⟩
