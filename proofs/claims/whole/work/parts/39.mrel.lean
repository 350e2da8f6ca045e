/-! THE TWO SIDES, one beside the other -/
theorem in_yes {x lo hi : Int32} {a b : Int64} (ha : a = lo.toInt64) (hb : b = hi.toInt64) (h : wi x lo hi) : j_M_in x.toInt64 a b = 1 := by
  have h1 := h.1
  have h2 := h.2
  rw [Int32.le_iff_toInt_le] at h1 h2
  unfold j_M_in
  rw [if_neg (by rw [pu_lt, ha, i_l, i_l]; omega), if_neg (by rw [pu_lt, hb, i_l, i_l]; omega)]
theorem in_n {x lo hi : Int32} {a b : Int64} (ha : a = lo.toInt64) (hb : b = hi.toInt64) (h : ¬ j_M_in x.toInt64 a b = 0) : wi x lo hi := by
  unfold j_M_in at h
  by_cases q1 : x.toInt64 < a
  · rw [if_pos q1] at h; exact absurd rfl h
  · rw [if_neg q1] at h
    by_cases q2 : b < x.toInt64
    · rw [if_pos q2] at h; exact absurd rfl h
    · rw [pu_lt, ha, i_l, i_l] at q1
      rw [pu_lt, hb, i_l, i_l] at q2
      refine ⟨?_, ?_⟩
      · rw [Int32.le_iff_toInt_le]; omega
      · rw [Int32.le_iff_toInt_le]; omega
theorem one_n0 : ¬ (1 : Int32) = 0 := by decide
theorem pt_yes {zs : Nat → Int32} {x y z : Int32} (h : wpt (zs 0) (zs 1) (zs 2) x y z) : j_M_isPoint zs x y z = 1 := by
  unfold j_M_isPoint
  rw [in_yes (by decide) rfl h.1, in_yes (by decide) rfl h.2.1, in_yes (by decide) rfl h.2.2, if_neg one_n0, if_neg one_n0, if_neg one_n0]
theorem pt_no {zs : Nat → Int32} {x y z : Int32} (h : ¬ wpt (zs 0) (zs 1) (zs 2) x y z) : j_M_isPoint zs x y z = 0 := by
  unfold j_M_isPoint
  by_cases q1 : j_M_in x.toInt64 0 (zs 0).toInt64 = 0
  · rw [if_pos q1]
  · by_cases q2 : j_M_in y.toInt64 0 (zs 1).toInt64 = 0
    · rw [if_neg q1, if_pos q2]
    · by_cases q3 : j_M_in z.toInt64 0 (zs 2).toInt64 = 0
      · rw [if_neg q1, if_neg q2, if_pos q3]
      · exact absurd ⟨in_n (by decide) rfl q1, in_n (by decide) rfl q2, in_n (by decide) rfl q3⟩ h
theorem im_yes {a b c : Int32} (h : wn3 a b c) : j_M_isImage a b c = 1 := by
  unfold j_M_isImage
  rw [in_yes (lo := -40) (hi := 40) (by decide) (by decide) h.1, in_yes (lo := -40) (hi := 40) (by decide) (by decide) h.2.1, in_yes (lo := -40) (hi := 40) (by decide) (by decide) h.2.2, if_neg one_n0, if_neg one_n0, if_neg one_n0]
theorem im_no {a b c : Int32} (h : ¬ wn3 a b c) : j_M_isImage a b c = 0 := by
  unfold j_M_isImage
  by_cases q1 : j_M_in a.toInt64 (-40) 40 = 0
  · rw [if_pos q1]
  · by_cases q2 : j_M_in b.toInt64 (-40) 40 = 0
    · rw [if_neg q1, if_pos q2]
    · by_cases q3 : j_M_in c.toInt64 (-40) 40 = 0
      · rw [if_neg q1, if_neg q2, if_pos q3]
      · exact absurd ⟨in_n (lo := -40) (hi := 40) (by decide) (by decide) q1, in_n (lo := -40) (hi := 40) (by decide) (by decide) q2, in_n (lo := -40) (hi := 40) (by decide) (by decide) q3⟩ h
theorem str_eq (kp : Nat → Int32) (a b c : Int32) : j_M_strength kp a b c = j_R_strengthOf kp a b c := rfl
theorem hit_eq (a b c : Int32) : j_M_hits a + j_M_hits b + j_M_hits c = j_R_hitsOf a b c := rfl
theorem wi40 {a : Int32} (h : wi a (-40) 40) : -40 ≤ a.toInt ∧ a.toInt ≤ 40 ∧ a = Int32.ofInt a.toInt := by
  have h1 := h.1
  have h2 := h.2
  have e1 : (-40 : Int32).toInt = -40 := rfl
  have e2 : (40 : Int32).toInt = 40 := rfl
  rw [Int32.le_iff_toInt_le] at h1 h2
  exact ⟨by omega, by omega, i_inj (by rw [i_of (by omega) (by omega)])⟩
theorem sq_two {zs sc li : Nat → Int32} {ax : Nat} {a : Int32} (h : axok (zs ax) (sc ax) (li ax)) (ha : wi a (-40) 40) : j_M_square zs sc li ax a = lN (sqn (zs ax) (sc ax) (li ax) a.toInt) ∧ j_A_squareTo (zs ax) (sc ax) (li ax) a = lN (sqn (zs ax) (sc ax) (li ax) a.toInt) ∧ sqn (zs ax) (sc ax) (li ax) a.toInt < 2147483648 := by
  obtain ⟨b1, b2, b3⟩ := wi40 ha
  have e1 := msqz (z := a.toInt) h b1 b2
  have e2 := sq_eq (z := a.toInt) h b1 b2
  rw [← b3] at e1 e2
  exact ⟨e1, e2, sqn_bd h b1 b2⟩
abbrev ax3k (zs sc li : Nat → Int32) : Prop := ∀ a, a < 3 → axok (zs a) (sc a) (li a)
theorem dst_two {zs sc li : Nat → Int32} {a b c : Int32} (h : ax3k zs sc li) (hn : wn3 a b c) : ∃ d, d < 6442450944 ∧ j_M_distance zs sc li a b c = lN d ∧ j_R_distanceOf (zs 0) (sc 0) (li 0) (zs 1) (sc 1) (li 1) (zs 2) (sc 2) (li 2) a b c = lN d := by
  obtain ⟨x1, x2, x3⟩ := sq_two (h 0 (by decide)) hn.1
  obtain ⟨y1, y2, y3⟩ := sq_two (h 1 (by decide)) hn.2.1
  obtain ⟨z1, z2, z3⟩ := sq_two (h 2 (by decide)) hn.2.2
  refine ⟨sqn (zs 0) (sc 0) (li 0) a.toInt + sqn (zs 1) (sc 1) (li 1) b.toInt + sqn (zs 2) (sc 2) (li 2) c.toInt, ?_, ?_, ?_⟩
  · omega
  · unfold j_M_distance; rw [x1, y1, z1, lN_add, lN_add]
  · unfold j_R_distanceOf; rw [x2, y2, z2, lN_add, lN_add]
theorem one_ln {d : Nat} (h : d < 6442450944) : ((1 : Int64) + lN d).toInt = d + 1 := by
  have e := ln_int (x := d) (by omega)
  have e1 : (1 : Int64).toInt = 1 := rfl
  rw [l_add (by omega) (by omega), e, e1]
  omega
theorem ne_1 {zs sc li : Nat → Int32} {a b c : Int32} (h : ax3k zs sc li) (hn : wn3 a b c) : (1 : Int64) + j_M_distance zs sc li a b c ≠ 0 := by
  obtain ⟨d, h1, h2, h3⟩ := dst_two h hn
  rw [h2]
  intro q
  have e := one_ln h1
  rw [q] at e
  have e0 : (0 : Int64).toInt = 0 := rfl
  omega
theorem told_eq {zs sc li kp : Nat → Int32} {a b c : Int32} (h : ax3k zs sc li) (hn : wn3 a b c) (what : Int32) : j_M_told zs sc li kp a b c what = j_R_image (zs 0) (sc 0) (li 0) (zs 1) (sc 1) (li 1) (zs 2) (sc 2) (li 2) kp a b c what := by
  obtain ⟨d, h1, h2, h3⟩ := dst_two h hn
  have e := one_ln h1
  unfold j_M_told j_R_image j_R_loudnessOf
  rw [h2, h3, str_eq, hit_eq, if_neg (c := 1 + lN d ≤ 0) (by rw [pu_le, e]; have e0 : (0 : Int64).toInt = 0 := rfl; omega)]
/-- the reference's loudness of echo k -/
def mlo (zs sc li kp : Nat → Int32) (as bs cs : Nat → Int32) (k : Nat) : Int64 := j_M_told zs sc li kp (as k) (bs k) (cs k) 2
abbrev ESz (zs sc li : Nat → Int32) (E : Nat → Int64) : Prop := ES (zs 0) (sc 0) (li 0) (zs 1) (sc 1) (li 1) (zs 2) (sc 2) (li 2) E
theorem es_dist {zs sc li : Nat → Int32} {E : Nat → Int64} (h : ax3k zs sc li) (hE : ESz zs sc li E) {k : Nat} (hk : k < 500) : j_R_distanceOf (zs 0) (sc 0) (li 0) (zs 1) (sc 1) (li 1) (zs 2) (sc 2) (li 2) (j_R_firstNumberIn (E k)) (j_R_secondNumberIn (E k)) (j_R_thirdNumberIn (E k)) = j_R_distanceIn (E k) := by
  obtain ⟨a, b, c, ha, hb, hc, e⟩ := hE.1 k hk
  have hd := dst_bd (h 0 (by decide)) (h 1 (by decide)) (h 2 (by decide)) ha hb hc
  rw [e, ekey, k3_first hd ha hb hc, k3_second hd ha hb hc, k3_third hd ha hb hc, k3_dist hd ha hb hc]
  unfold j_R_distanceOf
  rw [show nz a = Int32.ofInt ((a : Int) - 40) from rfl, show nz b = Int32.ofInt ((b : Int) - 40) from rfl, show nz c = Int32.ofInt ((c : Int) - 40) from rfl, sq_eq (h 0 (by decide)) (by omega) (by omega), sq_eq (h 1 (by decide)) (by omega) (by omega), sq_eq (h 2 (by decide)) (by omega) (by omega), lN_add, lN_add]
  rfl
theorem mlo_eq {zs sc li kp : Nat → Int32} {E : Nat → Int64} {as bs cs : Nat → Int32} (h : ax3k zs sc li) (hE : ESz zs sc li E) {k : Nat} (hk : k < 500) (h1 : as k = j_R_firstNumberIn (E k)) (h2 : bs k = j_R_secondNumberIn (E k)) (h3 : cs k = j_R_thirdNumberIn (E k)) : mlo zs sc li kp as bs cs k = lou kp E k := by
  have hn := es_wn3 (h 0 (by decide)) (h 1 (by decide)) (h 2 (by decide)) hE hk
  unfold mlo
  rw [h1, h2, h3, told_eq h hn]
  unfold j_R_image lou
  rw [if_neg (by decide), if_neg (by decide), if_pos rfl, es_dist h hE hk]
theorem mr_ne {zs sc li : Nat → Int32} {ds : Nat → Int64} {as bs cs : Nat → Int32} (h : ax3k zs sc li) (hR : MRz zs sc li ds as bs cs) {k : Nat} (hk : k < 500) : (1 : Int64) + j_M_distance zs sc li (as k) (bs k) (cs k) ≠ 0 := by
  obtain ⟨E, hE, hA⟩ := hR
  obtain ⟨h1, h2, h3, h4⟩ := hA k hk
  rw [h1, h2, h3]
  exact ne_1 h (es_wn3 (h 0 (by decide)) (h 1 (by decide)) (h 2 (by decide)) hE hk)
/-- bounds -/
theorem it_bd {th : Int32} (h0 : 0 ≤ th.toInt) (h1 : th.toInt ≤ 1000) : ∀ (n : Nat) (x : Int64), 0 ≤ x.toInt → x.toInt ≤ 1000000000 → 0 ≤ (j_it th n x).toInt ∧ (j_it th n x).toInt ≤ 1000000000 := by
  intro n
  induction n with
  | zero => intro x a b; exact ⟨a, b⟩
  | succ n ih =>
    intro x a b
    show 0 ≤ (j_it th n (x * th.toInt64 / 1000)).toInt ∧ (j_it th n (x * th.toInt64 / 1000)).toInt ≤ 1000000000
    have p0 : 0 ≤ x.toInt * th.toInt := Int.mul_nonneg a h0
    have p1 : x.toInt * th.toInt ≤ x.toInt * 1000 := Int.mul_le_mul_of_nonneg_left h1 a
    have e : (x * th.toInt64).toInt = x.toInt * th.toInt := by rw [l_mul (by rw [i_l]; omega) (by rw [i_l]; omega), i_l]
    have e1 : (1000 : Int64).toInt = 1000 := rfl
    have e2 : (x * th.toInt64 / 1000).toInt = (x.toInt * th.toInt) / 1000 := by
      rw [Int64.toInt_div, e, e1, Int.tdiv_eq_ediv_of_nonneg p0]
      exact bm64 (by omega) (by omega)
    exact ih _ (by rw [e2]; omega) (by rw [e2]; omega)
theorem str_bd {kp : Nat → Int32} (h : kpok kp) (a b c : Int32) : 0 ≤ (j_R_strengthOf kp a b c).toInt ∧ (j_R_strengthOf kp a b c).toInt ≤ 1000000000 := by
  have k0 := h 0 (by decide)
  have k1 := h 1 (by decide)
  have k2 := h 2 (by decide)
  have k3 := h 3 (by decide)
  have k4 := h 4 (by decide)
  have k5 := h 5 (by decide)
  have x0 : 0 ≤ (1000000000 : Int64).toInt ∧ (1000000000 : Int64).toInt ≤ 1000000000 := by decide
  have x1 := it_bd k0.1 k0.2 (j_R_hitsAtZero a).toNatClampNeg _ x0.1 x0.2
  have x2 := it_bd k1.1 k1.2 (j_R_hitsAtSize a).toNatClampNeg _ x1.1 x1.2
  have x3 := it_bd k2.1 k2.2 (j_R_hitsAtZero b).toNatClampNeg _ x2.1 x2.2
  have x4 := it_bd k3.1 k3.2 (j_R_hitsAtSize b).toNatClampNeg _ x3.1 x3.2
  have x5 := it_bd k4.1 k4.2 (j_R_hitsAtZero c).toNatClampNeg _ x4.1 x4.2
  exact it_bd k5.1 k5.2 (j_R_hitsAtSize c).toNatClampNeg _ x5.1 x5.2
theorem lou_bd {zs sc li kp : Nat → Int32} {E : Nat → Int64} (h : ax3k zs sc li) (hE : ESz zs sc li E) (hk : kpok kp) {k : Nat} (hk5 : k < 500) : 0 ≤ (lou kp E k).toInt ∧ (lou kp E k).toInt ≤ 1000000000 := by
  obtain ⟨a, b, c, ha, hb, hc, e⟩ := hE.1 k hk5
  have hd := dst_bd (h 0 (by decide)) (h 1 (by decide)) (h 2 (by decide)) ha hb hc
  have s := str_bd hk (j_R_firstNumberIn (E k)) (j_R_secondNumberIn (E k)) (j_R_thirdNumberIn (E k))
  unfold lou
  generalize j_R_strengthOf kp (j_R_firstNumberIn (E k)) (j_R_secondNumberIn (E k)) (j_R_thirdNumberIn (E k)) = g at s
  rw [e, ekey, k3_dist hd ha hb hc]
  unfold j_R_loudnessOf
  have e1 := one_ln hd
  have e0 : (0 : Int64).toInt = 0 := rfl
  rw [if_neg (by rw [pu_le, e1]; omega), Int64.toInt_div, e1, Int.tdiv_eq_ediv_of_nonneg s.1]
  have q0 : 0 ≤ g.toInt / ((dst (zs 0) (sc 0) (li 0) (zs 1) (sc 1) (li 1) (zs 2) (sc 2) (li 2) a b c : Int) + 1) := Int.ediv_nonneg s.1 (by omega)
  have q1 : g.toInt / ((dst (zs 0) (sc 0) (li 0) (zs 1) (sc 1) (li 1) (zs 2) (sc 2) (li 2) a b c : Int) + 1) ≤ g.toInt := Int.ediv_le_self _ s.1
  rw [bm64 (by omega) (by omega)]
  omega
