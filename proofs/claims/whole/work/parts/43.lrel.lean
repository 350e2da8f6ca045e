/-! THE LAW'S COMPARISONS -/
abbrev RIz (zs sc li kp : Nat → Int32) (E G : Nat → Int64) (od wd : Int32) : Prop := RI (zs 0) (sc 0) (li 0) (zs 1) (sc 1) (li 1) (zs 2) (sc 2) (li 2) kp E G od wd
theorem RIz_ax {zs sc li kp : Nat → Int32} {E G : Nat → Int64} {od wd : Int32} (h : RIz zs sc li kp E G od wd) : ax3k zs sc li := by
  intro a ha
  match a, ha with
  | 0, _ => exact h.1
  | 1, _ => exact h.2.1
  | 2, _ => exact h.2.2.1
  | a + 3, ha => exact absurd ha (by omega)
theorem RIz_E {zs sc li kp : Nat → Int32} {E G : Nat → Int64} {wd : Int32} (h : RIz zs sc li kp E G 1 wd) : ESz zs sc li E := (h.2.2.2.2.1.resolve_left (by decide)).2
theorem RIz_G {zs sc li kp : Nat → Int32} {E G : Nat → Int64} (h : RIz zs sc li kp E G 1 1) : ∀ k, k < 500 → G k = lou kp E k := (h.2.2.2.2.2.resolve_left (by decide)).2.2
theorem mr_at {zs sc li : Nat → Int32} {E ds : Nat → Int64} {as bs cs : Nat → Int32} (hE : ESz zs sc li E) (hR : MRz zs sc li ds as bs cs) : ∀ k, k < 500 → as k = j_R_firstNumberIn (E k) ∧ bs k = j_R_secondNumberIn (E k) ∧ cs k = j_R_thirdNumberIn (E k) ∧ ds k = j_R_distanceIn (E k) := by
  obtain ⟨F, hF, hA⟩ := hR
  intro k hk
  rw [ES_one hE hF k hk]
  exact hA k hk
theorem q_image {zs sc li kp : Nat → Int32} {E G : Nat → Int64} {od wd a b c what : Int32} {o : Nat → Int64} (hI : RIz zs sc li kp E G od wd) (h : wn3 a b c ∧ wi what 0 3) : vp_updL o 0 (j_R_image (zs 0) (sc 0) (li 0) (zs 1) (sc 1) (li 1) (zs 2) (sc 2) (li 2) kp a b c what) 0 = j_M_told zs sc li kp a b c what := up0 (f := o) (told_eq (RIz_ax hI) h.1 what).symm
theorem q_echo {zs sc li kp : Nat → Int32} {E G ds : Nat → Int64} {wd p0 p1 : Int32} {as bs cs : Nat → Int32} (hI : RIz zs sc li kp E G 1 wd) (hR : MRz zs sc li ds as bs cs) (h : wi p0 0 499 ∧ wi p1 0 6) :
    p_echo (zs 0) (sc 0) (li 0) (zs 1) (sc 1) (li 1) (zs 2) (sc 2) (li 2) kp (E p0.toNatClampNeg) p1 = m_echo zs sc li kp as bs cs p0.toNatClampNeg p1 := by
  have hk : p0.toNatClampNeg < 500 := by have := (wi_nI (hi := 499) h.1 (by decide)).2; omega
  obtain ⟨h1, h2, h3, h4⟩ := mr_at (RIz_E hI) hR _ hk
  have ax := RIz_ax hI
  have hn := es_wn3 (ax 0 (by decide)) (ax 1 (by decide)) (ax 2 (by decide)) (RIz_E hI) hk
  have w1 := h.2.1
  have w2 := h.2.2
  have z4 : (4 : Int32).toInt = 4 := rfl
  have z6 : (6 : Int32).toInt = 6 := rfl
  rw [Int32.le_iff_toInt_le] at w1 w2
  unfold p_echo m_echo
  rw [h1, h2, h3]
  by_cases q4 : p1 = 4
  · rw [if_pos q4, if_pos (by rw [q4]; decide), if_pos q4]
  · by_cases q5 : p1 = 5
    · rw [if_neg q4, if_pos q5, if_pos (by rw [q5]; decide), if_neg q4, if_pos q5]
    · by_cases q6 : p1 = 6
      · rw [if_neg q4, if_neg q5, if_pos q6, if_pos (by rw [q6]; decide), if_neg q4, if_neg q5]
      · have e4 : p1.toInt ≠ 4 := ti_ne q4
        have e5 : p1.toInt ≠ 5 := ti_ne q5
        have e6 : p1.toInt ≠ 6 := ti_ne q6
        rw [if_neg q4, if_neg q5, if_neg q6, if_neg (by rw [Int32.le_iff_toInt_le]; omega), told_eq ax hn]
theorem q_place {zs sc li kp : Nat → Int32} {E G ds : Nat → Int64} {wd a b c : Int32} {as bs cs : Nat → Int32} (hI : RIz zs sc li kp E G 1 wd) (hR : MRz zs sc li ds as bs cs) (h : wn3 a b c) :
    (j_pl E (j_R_keyOf (j_R_distanceOf (zs 0) (sc 0) (li 0) (zs 1) (sc 1) (li 1) (zs 2) (sc 2) (li 2) a b c) a b c) 500 0).toInt64 = (j_mp as bs cs a b c 500 0 (-1)).toInt64 := by
  refine congrArg Int32.toInt64 (mp_pl (RIz_E hI).2.1 (fun k hk => ?_) 500 0 rfl).symm
  obtain ⟨h1, h2, h3, h4⟩ := mr_at (RIz_E hI) hR k hk
  rw [h1, h2, h3]
  exact key_at (RIz_ax hI) (RIz_E hI) h hk
theorem cu_cw {E ds : Nat → Int64} {d : Int64} (h : ∀ k, k < 500 → ds k = j_R_distanceIn (E k)) : ∀ n i, i + n ≤ 500 → j_cw E d n i = j_cu ds d n i := by
  intro n
  induction n with
  | zero => intro i _; rfl
  | succ n ih =>
    intro i hi
    show (if d < j_R_distanceIn (E i) then i else j_cw E d n (i + 1)) = if d < ds i then i else j_cu ds d n (i + 1)
    rw [h i (by omega), ih (i + 1) (by omega)]
theorem q_until {zs sc li kp : Nat → Int32} {E G ds : Nat → Int64} {wd : Int32} {d : Int64} {as bs cs : Nat → Int32} (hI : RIz zs sc li kp E G 1 wd) (hR : MRz zs sc li ds as bs cs) : (nI (j_cw E d 500 0)).toInt64 = (nI (j_cu ds d 500 0)).toInt64 := by
  rw [cu_cw (fun k hk => (mr_at (RIz_E hI) hR k hk).2.2.2) 500 0 (by decide)]
theorem q_G {zs sc li kp : Nat → Int32} {E G ds : Nat → Int64} {as bs cs : Nat → Int32} (hI : RIz zs sc li kp E G 1 1) (hR : MRz zs sc li ds as bs cs) : ∀ k, k < 500 → G k = mlo zs sc li kp as bs cs k := by
  intro k hk
  obtain ⟨h1, h2, h3, h4⟩ := mr_at (RIz_E hI) hR k hk
  rw [RIz_G hI k hk, mlo_eq (RIz_ax hI) (RIz_E hI) hk h1 h2 h3]
theorem q_loud {zs sc li kp : Nat → Int32} {E G ds : Nat → Int64} {p0 p1 : Int32} {as bs cs : Nat → Int32} (hI : RIz zs sc li kp E G 1 1) (hR : MRz zs sc li ds as bs cs) (h : wi p0 0 499 ∧ wi p1 p0 499) :
    j_sum G p0.toNatClampNeg (p1.toNatClampNeg + 1 - p0.toNatClampNeg) = j_sum (mlo zs sc li kp as bs cs) 0 (p1.toNatClampNeg + 1) - j_sum (mlo zs sc li kp as bs cs) 0 p0.toNatClampNeg := by
  obtain ⟨l1, l2, l3⟩ := wi_lo h.1 h.2
  rw [js_sub _ (by omega)]
  exact js_ext _ (fun i hi => q_G hI hR _ (by omega))
theorem q_sum {L G : Nat → Int64} (h : ∀ k, k < 500 → G k = L k) {n : Nat} (hn : n ≤ 500) : j_sum G 0 n = j_sum L 0 n := js_ext _ (fun i hi => h _ (by omega))
theorem q_early {zs sc li kp : Nat → Int32} {E G ds : Nat → Int64} {d : Int64} {pt : Int32} {as bs cs : Nat → Int32} (hI : RIz zs sc li kp E G 1 1) (hR : MRz zs sc li ds as bs cs) : p_early E G d pt = m_early (mlo zs sc li kp as bs cs) ds d pt := by
  have hG := q_G hI hR
  have hb := mr_bd (RIz_ax hI) hI.2.2.2.1 hR
  have cu := cu_cw (d := d) (fun k hk => (mr_at (RIz_E hI) hR k hk).2.2.2) 500 0 (by decide)
  have cl := j_cu_le ds d 500 0
  unfold p_early m_early
  rw [cu, q_sum hG (Nat.le_refl _), q_sum hG (by omega)]
  have b1 := js_bd hb (j_cu ds d 500 0) (by omega)
  have b2 := js_mono hb 500 (show j_cu ds d 500 0 ≤ 500 by omega) (Nat.le_refl _)
  by_cases q : j_sum (mlo zs sc li kp as bs cs) 0 500 = 0
  · have z0 : (0 : Int64).toInt = 0 := rfl
    have e : j_sum (mlo zs sc li kp as bs cs) 0 (j_cu ds d 500 0) = 0 := l_inj (by rw [q] at b2; omega)
    rw [if_pos q, e, q, gc_00, if_pos rfl]
  · rw [if_neg q, if_neg (gc_ne _ _ _ q)]
theorem en_ext {L G : Nat → Int64} {due : Int64} (h : ∀ k, k < 500 → G k = L k) : ∀ n i y, i + n ≤ 500 → j_en G due n i y = j_en L due n i y := by
  intro n
  induction n with
  | zero => intro i y _; rfl
  | succ n ih =>
    intro i y hi
    show (if (y + G i) * 1000 < due then j_en G due n (i + 1) (y + G i) else nI i) = if (y + L i) * 1000 < due then j_en L due n (i + 1) (y + L i) else nI i
    rw [h i (by omega), ih (i + 1) _ (by omega)]
theorem q_enough {zs sc li kp : Nat → Int32} {E G ds : Nat → Int64} {th : Int32} {as bs cs : Nat → Int32} (hI : RIz zs sc li kp E G 1 1) (hR : MRz zs sc li ds as bs cs) : (j_en G (j_sum G 0 500 * th.toInt64) 500 0 0).toInt64 = (j_en (mlo zs sc li kp as bs cs) (j_sum (mlo zs sc li kp as bs cs) 0 500 * th.toInt64) 500 0 0).toInt64 := by
  have hG := q_G hI hR
  rw [q_sum hG (Nat.le_refl _), en_ext hG 500 0 0 (by decide)]
theorem lo_ext {L G : Nat → Int64} (h : ∀ k, k < 500 → G k = L k) : ∀ n i b y, i + n ≤ 500 → j_lo G n i b y = j_lo L n i b y := by
  intro n
  induction n with
  | zero => intro i b y _; rfl
  | succ n ih =>
    intro i b y hi
    show (if G i ≤ y then j_lo G n (i + 1) b y else j_lo G n (i + 1) (nI i) (G i)) = if L i ≤ y then j_lo L n (i + 1) b y else j_lo L n (i + 1) (nI i) (L i)
    rw [h i (by omega), ih (i + 1) _ _ (by omega), ih (i + 1) _ _ (by omega)]
theorem q_loudest {zs sc li kp : Nat → Int32} {E G ds : Nat → Int64} {k : Int32} {as bs cs : Nat → Int32} (hI : RIz zs sc li kp E G 1 1) (hR : MRz zs sc li ds as bs cs) (h : wi k (-1) 499) : (j_lo G (500 - (k + 1).toNatClampNeg) (k + 1).toNatClampNeg (-1) (-1)).toInt64 = (j_lo (mlo zs sc li kp as bs cs) (500 - (k + 1).toNatClampNeg) (k + 1).toNatClampNeg (-1) (-1)).toInt64 := by
  have := (wi_st h).2
  rw [lo_ext (q_G hI hR) _ _ _ _ (by omega)]
/-- what a setter leaves -/
theorem RI_src {wX sX tX wY sY tY wZ sZ tZ x y z : Int32} {kp : Nat → Int32} {E G : Nat → Int64} {od wd : Int32} (h : RI wX sX tX wY sY tY wZ sZ tZ kp E G od wd) (hp : wpt wX wY wZ x y z) : RI wX x tX wY y tY wZ z tZ kp E G 0 0 := by
  obtain ⟨a, b, c, d, -, -⟩ := h
  have f : ∀ {w s t x : Int32}, axok w s t → wi x 0 w → axok w x t := by
    intro w s t x hh hx
    obtain ⟨q1, q2⟩ := hx
    have z0 : (0 : Int32).toInt = 0 := rfl
    rw [Int32.le_iff_toInt_le] at q1 q2
    exact ⟨hh.1, hh.2.1, by omega, q2, hh.2.2.2.2.1, hh.2.2.2.2.2⟩
  exact ⟨f a hp.1, f b hp.2.1, f c hp.2.2, d, Or.inl rfl, Or.inl rfl⟩
theorem RI_lis {wX sX tX wY sY tY wZ sZ tZ x y z : Int32} {kp : Nat → Int32} {E G : Nat → Int64} {od wd : Int32} (h : RI wX sX tX wY sY tY wZ sZ tZ kp E G od wd) (hp : wpt wX wY wZ x y z) : RI wX sX x wY sY y wZ sZ z kp E G 0 0 := by
  obtain ⟨a, b, c, d, -, -⟩ := h
  have f : ∀ {w s t x : Int32}, axok w s t → wi x 0 w → axok w s x := by
    intro w s t x hh hx
    obtain ⟨q1, q2⟩ := hx
    have z0 : (0 : Int32).toInt = 0 := rfl
    rw [Int32.le_iff_toInt_le] at q1 q2
    exact ⟨hh.1, hh.2.1, hh.2.2.1, hh.2.2.2.1, by omega, q2⟩
  exact ⟨f a hp.1, f b hp.2.1, f c hp.2.2, d, Or.inl rfl, Or.inl rfl⟩
theorem RI_kp {wX sX tX wY sY tY wZ sZ tZ : Int32} {kp : Nat → Int32} {E G : Nat → Int64} {od wd : Int32} {k : Nat} {th : Int32} (h : RI wX sX tX wY sY tY wZ sZ tZ kp E G od wd) (ht : wi th 0 1000) : RI wX sX tX wY sY tY wZ sZ tZ (upd kp k th) E G od 0 := by
  obtain ⟨a, b, c, d, e, -⟩ := h
  refine ⟨a, b, c, fun i hi => ?_, e, Or.inl rfl⟩
  obtain ⟨q1, q2⟩ := ht
  have z0 : (0 : Int32).toInt = 0 := rfl
  have z1 : (1000 : Int32).toInt = 1000 := rfl
  rw [Int32.le_iff_toInt_le] at q1 q2
  unfold upd
  by_cases q : i = k
  · rw [if_pos q]; omega
  · rw [if_neg q]; exact d i hi
theorem sz_eq (x : Int32) : j_R_sizeWithin x = j_cz x := by
  have z0 : (1 : Int32).toInt = 1 := rfl
  have z1 : (1000 : Int32).toInt = 1000 := rfl
  unfold j_R_sizeWithin j_cz
  by_cases q1 : x < 1000
  · rw [if_pos q1]
    rw [Int32.lt_iff_toInt_lt] at q1
    by_cases q2 : 1 < x
    · rw [if_pos q2]
      rw [Int32.lt_iff_toInt_lt] at q2
      rw [if_pos (by rw [Int32.le_iff_toInt_le]; omega), if_pos (by rw [Int32.le_iff_toInt_le]; omega)]
    · rw [if_neg q2]
      rw [Int32.lt_iff_toInt_lt] at q2
      by_cases q3 : 1 ≤ x
      · rw [if_pos q3, if_pos (by rw [Int32.le_iff_toInt_le]; omega)]
        rw [Int32.le_iff_toInt_le] at q3
        exact i_inj (by omega)
      · rw [if_neg q3]
  · rw [if_neg q1, if_pos (by decide)]
    rw [Int32.lt_iff_toInt_lt] at q1
    rw [if_pos (by rw [Int32.le_iff_toInt_le]; omega)]
    by_cases q3 : x ≤ 1000
    · rw [if_pos q3]
      rw [Int32.le_iff_toInt_le] at q3
      exact i_inj (by omega)
    · rw [if_neg q3]
theorem cz_ok (x : Int32) : axok (j_cz x) 0 0 := by
  have z0 : (1 : Int32).toInt = 1 := rfl
  have z1 : (1000 : Int32).toInt = 1000 := rfl
  have z2 : (0 : Int32).toInt = 0 := rfl
  unfold j_cz
  by_cases q : 1 ≤ x
  · rw [if_pos q]
    rw [Int32.le_iff_toInt_le] at q
    by_cases q2 : x ≤ 1000
    · rw [if_pos q2]
      rw [Int32.le_iff_toInt_le] at q2
      exact ⟨by omega, by omega, by omega, by omega, by omega, by omega⟩
    · rw [if_neg q2]
      exact ⟨by omega, by omega, by omega, by omega, by omega, by omega⟩
  · rw [if_neg q]
    exact ⟨by omega, by omega, by omega, by omega, by omega, by omega⟩
theorem kpi_ok : kpok (kpi 6) := by
  intro i hi
  match i, hi with
  | 0, _ => exact (by decide : 0 ≤ (900 : Int32).toInt ∧ (900 : Int32).toInt ≤ 1000)
  | 1, _ => exact (by decide : 0 ≤ (900 : Int32).toInt ∧ (900 : Int32).toInt ≤ 1000)
  | 2, _ => exact (by decide : 0 ≤ (900 : Int32).toInt ∧ (900 : Int32).toInt ≤ 1000)
  | 3, _ => exact (by decide : 0 ≤ (900 : Int32).toInt ∧ (900 : Int32).toInt ≤ 1000)
  | 4, _ => exact (by decide : 0 ≤ (900 : Int32).toInt ∧ (900 : Int32).toInt ≤ 1000)
  | 5, _ => exact (by decide : 0 ≤ (900 : Int32).toInt ∧ (900 : Int32).toInt ≤ 1000)
  | i + 6, h => exact absurd h (by omega)
