/-! WHAT MAKE HOLDS -/
def MRz (zs sc li : Nat → Int32) (ds : Nat → Int64) (as bs cs : Nat → Int32) : Prop :=
  ∃ E : Nat → Int64, ES (zs 0) (sc 0) (li 0) (zs 1) (sc 1) (li 1) (zs 2) (sc 2) (li 2) E ∧ ∀ k, k < 500 → as k = j_R_firstNumberIn (E k) ∧ bs k = j_R_secondNumberIn (E k) ∧ cs k = j_R_thirdNumberIn (E k) ∧ ds k = j_R_distanceIn (E k)
theorem k3_mono {d d' t t' : Nat} (h : d < d' ∨ (d = d' ∧ t < t')) : pu_k3 d (t / 6561) (t / 81 % 81) (t % 81) < pu_k3 d' (t' / 6561) (t' / 81 % 81) (t' % 81) ∨ 531441 ≤ t := by
  by_cases q : 531441 ≤ t
  · exact Or.inr q
  · left
    unfold pu_k3
    have a : t / 6561 < 81 := by omega
    have b : t / 81 % 81 < 81 := by omega
    have c : t % 81 < 81 := by omega
    have e : t = 6561 * (t / 6561) + 81 * (t / 81 % 81) + t % 81 := by omega
    have e' : t' = 6561 * (t' / 6561) + 81 * (t' / 81 % 81) + t' % 81 := by omega
    have b' : t' / 81 % 81 < 81 := by omega
    have c' : t' % 81 < 81 := by omega
    generalize t / 6561 = x at *
    generalize t / 81 % 81 = y at *
    generalize t % 81 = z at *
    generalize t' / 6561 = x' at *
    generalize t' / 81 % 81 = y' at *
    generalize t' % 81 = z' at *
    rcases h with h | ⟨h1, h2⟩
    · omega
    · subst h1
      omega
theorem mk_MR {zs sc li : Nat → Int32} {low n1 : Nat} {ds : Nat → Int64} {as bs cs : Nat → Int32} (hax : ∀ a, a < 3 → axok (zs a) (sc a) (li a)) (h : JC (dl (qz zs sc li 0) (qz zs sc li 1) (qz zs sc li 2)) low (low + 1) n1 531441 500 ds as bs cs) : MRz zs sc li ds as bs cs := by
  obtain ⟨T', τ, a1, a2, a3, a4, a5, a6⟩ := h
  have q : qb (qz zs sc li 0) (qz zs sc li 1) (qz zs sc li 2) := fun a ha => ⟨qz_bd (hax 0 (by decide)) ha, qz_bd (hax 1 (by decide)) ha, qz_bd (hax 2 (by decide)) ha⟩
  have hb := dl_bd q
  have key : ∀ t, ekey (zs 0) (sc 0) (li 0) (zs 1) (sc 1) (li 1) (zs 2) (sc 2) (li 2) (t / 6561) (t / 81 % 81) (t % 81) = pu_k3 (dl (qz zs sc li 0) (qz zs sc li 1) (qz zs sc li 2) t) (t / 6561) (t / 81 % 81) (t % 81) := fun t => rfl
  generalize dl (qz zs sc li 0) (qz zs sc li 1) (qz zs sc li 2) = dd at *
  have lt : ∀ t t', t < 531441 → t' < 531441 → (dd t < dd t' ∨ (dd t = dd t' ∧ t < t')) → lN (pu_k3 (dd t) (t / 6561) (t / 81 % 81) (t % 81)) < lN (pu_k3 (dd t') (t' / 6561) (t' / 81 % 81) (t' % 81)) := by
    intro t t' ht ht' hh
    have b1 := k3_lt (hb t ht) (show t / 6561 < 81 by omega) (show t / 81 % 81 < 81 by omega) (show t % 81 < 81 by omega)
    have b2 := k3_lt (hb t' ht') (show t' / 6561 < 81 by omega) (show t' / 81 % 81 < 81 by omega) (show t' % 81 < 81 by omega)
    rw [pu_lt, ln_int (by omega), ln_int (by omega)]
    rcases k3_mono hh with z | z
    · omega
    · omega
  refine ⟨fun k => lN (pu_k3 (dd (τ k)) (τ k / 6561) (τ k / 81 % 81) (τ k % 81)), ⟨fun k hk => ?_, fun k j hkj hj => ?_, fun a b c ha hb' hc => ?_⟩, fun k hk => ?_⟩
  · have t1 := (a5.1 k hk).1
    exact ⟨τ k / 6561, τ k / 81 % 81, τ k % 81, by omega, by omega, by omega, by rw [key]⟩
  · exact lt _ _ (a5.1 k (by omega)).1 (a5.1 j hj).1 (a5.2.1 k j hkj hj)
  · have e1 : (6561 * a + 81 * b + c) / 6561 = a := by omega
    have e2 : (6561 * a + 81 * b + c) / 81 % 81 = b := by omega
    have e3 : (6561 * a + 81 * b + c) % 81 = c := by omega
    have ht : 6561 * a + 81 * b + c < 531441 := by omega
    have kt := key (6561 * a + 81 * b + c)
    rw [e1, e2, e3] at kt
    rw [kt]
    have lt2 := fun k (hk : k < 500) hh => lt (τ k) (6561 * a + 81 * b + c) (a5.1 k hk).1 ht hh
    rw [e1, e2, e3] at lt2
    generalize 6561 * a + 81 * b + c = t at *
    by_cases p : dd t < low ∨ (t < T' ∧ low ≤ dd t ∧ dd t < low + 1)
    · obtain ⟨k, hk, e⟩ := a5.2.2 t ht p
      refine Or.inl ⟨k, hk, ?_⟩
      show lN (pu_k3 (dd (τ k)) (τ k / 6561) (τ k / 81 % 81) (τ k % 81)) = _
      rw [e, e1, e2, e3]
    · refine Or.inr (fun k hk => lt2 k hk ?_)
      have := (a5.1 k hk).2
      omega
  · have t1 := (a5.1 k hk).1
    have d1 := hb _ t1
    obtain ⟨h1, h2, h3, h4⟩ := a6 k hk
    refine ⟨?_, ?_, ?_, ?_⟩
    · rw [h2]; exact (k3_first d1 (by omega) (by omega) (by omega)).symm
    · rw [h3]; exact (k3_second d1 (by omega) (by omega) (by omega)).symm
    · rw [h4]; exact (k3_third d1 (by omega) (by omega) (by omega)).symm
    · rw [h1]; exact (k3_dist d1 (by omega) (by omega) (by omega)).symm
/-- what prepare leaves, for the search and the sweeps -/
theorem PA3 {zs sc li : Nat → Int32} {sq so : Nat → Int64} (h : ∀ a, a < 3 → PA zs sc li sq so a 81) : ∃ s0 s1 s2 : Nat → Nat, (∀ a, a < 81 → so a = lN (s0 a)) ∧ (∀ a, a < 81 → so (81 + a) = lN (s1 a)) ∧ (∀ a, a < 81 → so (162 + a) = lN (s2 a)) ∧ qb s0 s1 s2 ∧ (∀ a b, a < b → b < 81 → s2 a ≤ s2 b) ∧
    (∀ M, c3 s0 s1 s2 M = sm (fun t => if dl (qz zs sc li 0) (qz zs sc li 1) (qz zs sc li 2) t ≤ M then 1 else 0) 531441) ∧ (∀ a, a < 81 → sq a = lN (qz zs sc li 0 a)) ∧ (∀ a, a < 81 → sq (81 + a) = lN (qz zs sc li 1 a)) ∧ (∀ a, a < 81 → sq (162 + a) = lN (qz zs sc li 2 a)) := by
  obtain ⟨x1, s0, x2, x3, x4, x5⟩ := h 0 (by decide)
  obtain ⟨y1, s1, y2, y3, y4, y5⟩ := h 1 (by decide)
  obtain ⟨z1, s2, z2, z3, z4, z5⟩ := h 2 (by decide)
  refine ⟨s0, s1, s2, fun a ha => ?_, fun a ha => ?_, fun a ha => ?_, fun a ha => ⟨x3 a ha, y3 a ha, z3 a ha⟩, z4, fun M => ?_, fun a ha => ?_, fun a ha => ?_, fun a ha => ?_⟩
  · have := x2 a ha; rwa [show 81 * 0 + a = a by omega] at this
  · have := y2 a ha; rwa [show 81 * 1 + a = 81 + a by omega] at this
  · have := z2 a ha; rwa [show 81 * 2 + a = 162 + a by omega] at this
  · rw [c3_ss (s0 := s0) (s1 := s1) (s2 := s2) x5 y5 z5, c3_lin]
  · have := x1 a ha; rwa [show 81 * 0 + a = a by omega] at this
  · have := y1 a ha; rwa [show 81 * 1 + a = 81 + a by omega] at this
  · have := z1 a ha; rwa [show 81 * 2 + a = 162 + a by omega] at this
theorem ln_half {n : Nat} (h : n < 2 ^ 62) : lN n / 2 = lN (n / 2) := by
  apply l_inj
  have e := ln_int (x := n) (by omega)
  have e2 : (2 : Int64).toInt = 2 := rfl
  rw [Int64.toInt_div, e, e2, ln_int (by omega)]
  have : (n : Int).tdiv 2 = ((n / 2 : Nat) : Int) := by rw [Int.tdiv_eq_ediv_of_nonneg (by omega)]; omega
  rw [this]
  exact bm64 (by omega) (by omega)
theorem ite_0 {p : Prop} [Decidable p] (h : (if p then (1 : Int32) else 0) = 0) : ¬ p := fun q => by rw [if_pos q] at h; exact absurd h (by decide)
theorem ite_n {p : Prop} [Decidable p] (h : ¬ (if p then (1 : Int32) else 0) = 0) : p := by
  by_cases q : p
  · exact q
  · rw [if_neg q] at h; exact absurd rfl h
theorem c_top {q0 q1 q2 : Nat → Nat} (h : qb q0 q1 q2) : 500 ≤ sm (fun t => if dl q0 q1 q2 t ≤ 8000000000 then 1 else 0) 531441 := by
  have e := cp_all (P := fun t => dl q0 q1 q2 t ≤ 8000000000) (k := 531441) (fun i hi => by have := dl_bd h i hi; show dl q0 q1 q2 i ≤ 8000000000; omega)
  have e' : sm (fun t => if dl q0 q1 q2 t ≤ 8000000000 then 1 else 0) 531441 = 531441 := e
  rw [e']
  decide
theorem c_low {dd : Nat → Nat} {lo : Nat} (h : lo = 0 ∨ ¬ 500 ≤ sm (fun t => if dd t ≤ lo - 1 then 1 else 0) 531441) : sm (fun t => if dd t < lo then 1 else 0) 531441 < 500 := by
  by_cases z : lo = 0
  · subst z
    have e : sm (fun t => if dd t < 0 then 1 else 0) 531441 = 0 := cp_eq (P := fun t => dd t < 0) (k := 0) (fun i hi => absurd hi (Nat.not_lt_zero i)) (by decide) (fun i _ _ q => Nat.not_lt_zero _ q)
    rw [e]
    decide
  · have h2 := h.resolve_left z
    have e : sm (fun t => if dd t < lo then 1 else 0) 531441 = sm (fun t => if dd t ≤ lo - 1 then 1 else 0) 531441 := sm_ext (fun i _ => by
      by_cases q : dd i < lo
      · rw [if_pos q, if_pos (by omega)]
      · rw [if_neg q, if_neg (by omega)])
    omega
theorem mo_1 {lo : Nat} (h : lo ≤ 8000000000) : ∀ x, x < 6442450944 → (lN x ≤ lN lo - 1 ↔ x < lo) := by
  intro x hx
  have e1 : (1 : Int64).toInt = 1 := rfl
  have e2 := ln_int (x := lo) (by omega)
  rw [pu_le, ln_int (by omega), l_sub (by omega) (by omega), e1, e2]
  omega
theorem mo_2 {lo : Nat} (h : lo ≤ 8000000000) : ∀ x, x < 6442450944 → (lN x ≤ lN lo ↔ x < lo + 1) := by
  intro x hx
  rw [ln_le (by omega) (by omega)]
  omega
theorem mo_3 {lo : Nat} (h : lo ≤ 8000000000) : ∀ x, x < 6442450944 → (lN x < lN lo ↔ x < lo) := by
  intro x hx
  rw [pu_lt, ln_int (by omega), ln_int (by omega)]
  omega
theorem mo_0 : ∀ x, x < 6442450944 → (lN x < 0 ↔ x < 0) := by
  intro x hx
  have e : (0 : Int64).toInt = 0 := rfl
  rw [pu_lt, ln_int (by omega), e]
  omega
