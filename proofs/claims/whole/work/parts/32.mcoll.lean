/-! WHAT COLLECT HOLDS -/
def CIv (dd : Nat → Nat) (P : Nat → Prop) (n : Nat) (τ : Nat → Nat) : Prop :=
  (∀ k, k < n → τ k < 531441 ∧ P (τ k)) ∧ (∀ j k, j < k → k < n → dd (τ j) < dd (τ k) ∨ (dd (τ j) = dd (τ k) ∧ τ j < τ k)) ∧ ∀ t, t < 531441 → P t → ∃ k, k < n ∧ τ k = t
def ENT (dd : Nat → Nat) (n : Nat) (ds : Nat → Int64) (as bs cs : Nat → Int32) (τ : Nat → Nat) : Prop :=
  ∀ k, k < n → ds k = lN (dd (τ k)) ∧ as k = nz (τ k / 6561) ∧ bs k = nz (τ k / 81 % 81) ∧ cs k = nz (τ k % 81)
theorem ln_int {x : Nat} (h : x < 2 ^ 63) : (lN x).toInt = (x : Int) := lg_ofNat_toInt (by omega)
theorem ln_le {x y : Nat} (hx : x < 2 ^ 63) (hy : y < 2 ^ 63) : lN x ≤ lN y ↔ x ≤ y := by
  rw [pu_le, ln_int hx, ln_int hy]
  omega
theorem CIv_put {dd : Nat → Nat} {P : Nat → Prop} {n T : Nat} {τ : Nat → Nat} {ds : Nat → Int64} {as bs cs : Nat → Int32} (hb : ∀ t, t < 531441 → dd t < 6442450944) (hT : T < 531441) (hC : CIv dd P n τ) (hE : ENT dd n ds as bs cs τ) (hl : ∀ u, P u → dd u = dd T → u < T) :
    CIv dd (fun u => P u ∨ u = T) (n + 1) (ins τ (mi_p ds (lN (dd T)) n) n T) := by
  obtain ⟨m1, m2, m3⟩ := mi_le ds (lN (dd T)) n
  generalize mi_p ds (lN (dd T)) n = p at m1 m2 m3
  have bT := hb T hT
  have hp2 : ∀ k, p ≤ k → k < n → dd T < dd (τ k) := by
    intro k h1 h2
    have := m2 k h1 h2
    have bk := hb _ (hC.1 k h2).1
    rw [(hE k h2).1, ln_le (by omega) (by omega)] at this
    omega
  have hp3 : ∀ k, k < p → dd (τ k) ≤ dd T := by
    intro k hk
    rcases m3 with h | h
    · omega
    · have bk := hb _ (hC.1 (p - 1) (by omega)).1
      rw [(hE (p - 1) (by omega)).1, ln_le (by omega) (by omega)] at h
      by_cases q : k = p - 1
      · rw [q]; exact h
      · have := hC.2.1 k (p - 1) (by omega) (by omega)
        omega
  refine ⟨fun k hk => ?_, fun j k hj hk => ?_, fun t ht hP => ?_⟩
  · rcases Nat.lt_trichotomy k p with q | q | q
    · rw [ins_lt q]
      exact ⟨(hC.1 k (by omega)).1, Or.inl (hC.1 k (by omega)).2⟩
    · subst q
      rw [ins_eq]
      exact ⟨hT, Or.inr rfl⟩
    · rw [ins_gt q (by omega)]
      exact ⟨(hC.1 (k - 1) (by omega)).1, Or.inl (hC.1 (k - 1) (by omega)).2⟩
  · rcases Nat.lt_trichotomy k p with q | q | q
    · rw [ins_lt q, ins_lt (by omega)]
      exact hC.2.1 j k hj (by omega)
    · subst q
      rw [ins_eq, ins_lt hj]
      have a := hp3 j hj
      by_cases e : dd (τ j) = dd T
      · exact Or.inr ⟨e, hl _ (hC.1 j (by omega)).2 e⟩
      · exact Or.inl (by omega)
    · rw [ins_gt q (by omega)]
      rcases Nat.lt_trichotomy j p with z | z | z
      · rw [ins_lt z]
        exact hC.2.1 j (k - 1) (by omega) (by omega)
      · subst z
        rw [ins_eq]
        exact Or.inl (hp2 (k - 1) (by omega) (by omega))
      · rw [ins_gt z (by omega)]
        exact hC.2.1 (j - 1) (k - 1) (by omega) (by omega)
  · rcases hP with hP | hP
    · obtain ⟨k, hk, e⟩ := hC.2.2 t ht hP
      by_cases q : k < p
      · exact ⟨k, by omega, by rw [ins_lt q]; exact e⟩
      · exact ⟨k + 1, by omega, by rw [ins_gt (by omega) (by omega)]; exact e⟩
    · subst hP
      exact ⟨p, by omega, ins_eq⟩
theorem ins_map {α β : Type} {f : Nat → β} {τ : Nat → α} {g : α → β} {p n : Nat} {v : α} (hp : p ≤ n) (h : ∀ k, k < n → f k = g (τ k)) : ∀ k, k < n + 1 → ins f p n (g v) k = g (ins τ p n v k) := by
  intro k hk
  rcases Nat.lt_trichotomy k p with q | q | q
  · rw [ins_lt q, ins_lt q]; exact h k (by omega)
  · subst q; rw [ins_eq, ins_eq]
  · rw [ins_gt q (by omega), ins_gt q (by omega)]; exact h _ (by omega)
theorem ENT_put {dd : Nat → Nat} {n T p : Nat} {τ : Nat → Nat} {ds : Nat → Int64} {as bs cs : Nat → Int32} (hE : ENT dd n ds as bs cs τ) (hp : p ≤ n) :
    ENT dd (n + 1) (ins ds p n (lN (dd T))) (ins as p n (nz (T / 6561))) (ins bs p n (nz (T / 81 % 81))) (ins cs p n (nz (T % 81))) (ins τ p n T) := by
  intro k hk
  exact ⟨ins_map (g := fun t => lN (dd t)) hp (fun k h => (hE k h).1) k hk, ins_map (g := fun t => nz (t / 6561)) hp (fun k h => (hE k h).2.1) k hk, ins_map (g := fun t => nz (t / 81 % 81)) hp (fun k h => (hE k h).2.2.1) k hk, ins_map (g := fun t => nz (t % 81)) hp (fun k h => (hE k h).2.2.2) k hk⟩
theorem CIv_iff {dd : Nat → Nat} {P P2 : Nat → Prop} {n : Nat} {τ : Nat → Nat} (h : ∀ t, P t ↔ P2 t) (hC : CIv dd P n τ) : CIv dd P2 n τ :=
  ⟨fun k hk => ⟨(hC.1 k hk).1, (h _).mp (hC.1 k hk).2⟩, hC.2.1, fun t ht hP => hC.2.2 t ht ((h t).mpr hP)⟩
def qc (dd : Nat → Nat) (lo hi t : Nat) : Nat := if lo ≤ dd t ∧ dd t < hi then 1 else 0
def JC (dd : Nat → Nat) (lo hi n0 T n : Nat) (ds : Nat → Int64) (as bs cs : Nat → Int32) : Prop :=
  ∃ (T' : Nat) (τ : Nat → Nat), T' ≤ T ∧ (T' = T ∨ n = 500) ∧ n ≤ 500 ∧ n = n0 + sm (qc dd lo hi) T' ∧ CIv dd (fun t => dd t < lo ∨ (t < T' ∧ lo ≤ dd t ∧ dd t < hi)) n τ ∧ ENT dd n ds as bs cs τ
theorem JC_skip {dd : Nat → Nat} {lo hi n0 T T2 n : Nat} {ds : Nat → Int64} {as bs cs : Nat → Int32} (h : JC dd lo hi n0 T n ds as bs cs) (hT : T ≤ T2) (hq : ∀ u, T ≤ u → u < T2 → ¬ (lo ≤ dd u ∧ dd u < hi)) : JC dd lo hi n0 T2 n ds as bs cs := by
  obtain ⟨T', τ, a1, a2, a3, a4, a5, a6⟩ := h
  by_cases q : T' = T
  · subst q
    refine ⟨T2, τ, Nat.le_refl _, Or.inl rfl, a3, ?_, CIv_iff (fun t => ?_) a5, a6⟩
    · rw [a4, show T2 = T' + (T2 - T') by omega, sm_add]
      have : sm (fun c => qc dd lo hi (T' + c)) (T2 - T') = sm (fun _ => 0) (T2 - T') := sm_ext (fun i hi => if_neg (hq _ (by omega) (by omega)))
      have z : ∀ m, sm (fun _ => 0) m = 0 := by
        intro m
        induction m with
        | zero => rfl
        | succ m ih => rw [sm_s, ih]
      rw [this, z]
      rfl
    · constructor
      · rintro (h | ⟨h1, h2⟩)
        · exact Or.inl h
        · exact Or.inr ⟨by omega, h2⟩
      · rintro (h | ⟨h1, h2⟩)
        · exact Or.inl h
        · by_cases z : t < T'
          · exact Or.inr ⟨z, h2⟩
          · exact absurd h2 (hq t (by omega) h1)
  · exact ⟨T', τ, by omega, Or.inr (a2.resolve_left q), a3, a4, a5, a6⟩
theorem JC_full {dd : Nat → Nat} {lo hi n0 T T2 n : Nat} {ds : Nat → Int64} {as bs cs : Nat → Int32} (h : JC dd lo hi n0 T n ds as bs cs) (hn : n = 500) (hT : T ≤ T2) : JC dd lo hi n0 T2 n ds as bs cs := by
  obtain ⟨T', τ, a1, a2, a3, a4, a5, a6⟩ := h
  exact ⟨T', τ, by omega, Or.inr hn, a3, a4, a5, a6⟩
theorem JC_put {dd : Nat → Nat} {lo hi n0 T n : Nat} {ds : Nat → Int64} {as bs cs : Nat → Int32} (hb : ∀ t, t < 531441 → dd t < 6442450944) (h : JC dd lo hi n0 T n ds as bs cs) (hn : n < 500) (hT : T < 531441) (hq : lo ≤ dd T ∧ dd T < hi) :
    JC dd lo hi n0 (T + 1) (n + 1) (ins ds (mi_p ds (lN (dd T)) n) n (lN (dd T))) (ins as (mi_p ds (lN (dd T)) n) n (nz (T / 6561))) (ins bs (mi_p ds (lN (dd T)) n) n (nz (T / 81 % 81))) (ins cs (mi_p ds (lN (dd T)) n) n (nz (T % 81))) := by
  obtain ⟨T', τ, a1, a2, a3, a4, a5, a6⟩ := h
  have e : T' = T := a2.resolve_right (by omega)
  subst e
  refine ⟨T' + 1, ins τ (mi_p ds (lN (dd T')) n) n T', Nat.le_refl _, Or.inl rfl, by omega, ?_, CIv_iff (fun t => ?_) (CIv_put hb hT a5 a6 (fun u hu he => ?_)), ENT_put a6 (mi_le _ _ _).1⟩
  · rw [sm_s, a4]
    have : qc dd lo hi T' = 1 := if_pos hq
    omega
  · constructor
    · rintro ((h | ⟨h1, h2⟩) | h)
      · exact Or.inl h
      · exact Or.inr ⟨by omega, h2⟩
      · subst h; exact Or.inr ⟨by omega, hq⟩
    · rintro (h | ⟨h1, h2⟩)
      · exact Or.inl (Or.inl h)
      · by_cases z : t = T'
        · exact Or.inr z
        · exact Or.inl (Or.inr ⟨by omega, h2⟩)
  · rcases hu with h | h
    · omega
    · exact h.1
theorem JC_0 (dd : Nat → Nat) (hi : Nat) (ds : Nat → Int64) (as bs cs : Nat → Int32) : JC dd 0 hi 0 0 0 ds as bs cs :=
  ⟨0, fun _ => 0, Nat.le_refl _, Or.inl rfl, by omega, rfl, ⟨fun k hk => absurd hk (Nat.not_lt_zero k), fun j k _ hk => absurd hk (Nat.not_lt_zero k), fun t _ h => by rcases h with h | h <;> omega⟩, fun k hk => absurd hk (Nat.not_lt_zero k)⟩
/-- from the first sweep to the second -/
theorem JC_12 {dd : Nat → Nat} {low n : Nat} {ds : Nat → Int64} {as bs cs : Nat → Int32} (h : JC dd 0 low 0 531441 n ds as bs cs) (hc : sm (fun t => if dd t < low then 1 else 0) 531441 < 500) : n = sm (fun t => if dd t < low then 1 else 0) 531441 ∧ JC dd low (low + 1) n 0 n ds as bs cs := by
  obtain ⟨T', τ, a1, a2, a3, a4, a5, a6⟩ := h
  have eq : sm (qc dd 0 low) T' = sm (fun t => if dd t < low then 1 else 0) T' := sm_ext (fun i _ => by
    unfold qc
    by_cases q : dd i < low
    · rw [if_pos ⟨Nat.zero_le _, q⟩, if_pos q]
    · rw [if_neg (fun z => q z.2), if_neg q])
  have m := sm_mono (fun t => if dd t < low then 1 else 0) a1
  have e : T' = 531441 := a2.resolve_right (by omega)
  subst e
  refine ⟨by omega, 0, τ, Nat.le_refl _, Or.inl rfl, a3, rfl, ?_, a6⟩
  refine ⟨fun k hk => ⟨(a5.1 k hk).1, ?_⟩, a5.2.1, fun t ht hP => a5.2.2 t ht ?_⟩
  · rcases (a5.1 k hk).2 with h | h
    · omega
    · exact Or.inl h.2.2
  · rcases hP with h | h
    · exact Or.inr ⟨ht, Nat.zero_le _, h⟩
    · omega
/-- the second sweep fills the row -/
theorem JC_500 {dd : Nat → Nat} {low n1 n : Nat} {ds : Nat → Int64} {as bs cs : Nat → Int32} (h : JC dd low (low + 1) n1 531441 n ds as bs cs) (h1 : n1 = sm (fun t => if dd t < low then 1 else 0) 531441) (hc : 500 ≤ sm (fun t => if dd t ≤ low then 1 else 0) 531441) : n = 500 := by
  obtain ⟨T', τ, a1, a2, a3, a4, a5, a6⟩ := h
  rcases a2 with e | e
  · subst e
    have : sm (fun t => if dd t ≤ low then 1 else 0) 531441 = sm (fun t => if dd t < low then 1 else 0) 531441 + sm (qc dd low (low + 1)) 531441 := by
      rw [← sm_two]
      refine sm_ext (fun i _ => ?_)
      unfold qc
      by_cases q : dd i < low
      · rw [if_pos (by omega), if_pos q, if_neg (by omega)]
      · by_cases q2 : dd i = low
        · rw [if_pos (by omega), if_neg q, if_pos (by omega)]
        · rw [if_neg (by omega), if_neg q, if_neg (by omega)]
    omega
  · exact e
