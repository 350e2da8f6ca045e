/-! THE REFERENCE'S SQUARES, raw and sorted -/
theorem ev2 (n : Int32) : n - n / 2 * 2 = 0 ↔ n.toInt % 2 = 0 := by
  have e := rem_toInt n 2
  have h2 : (2 : Int32).toInt = 2 := rfl
  have h0 : (0 : Int32).toInt = 0 := rfl
  rw [h2] at e
  have t : n.toInt.tmod 2 = 0 ↔ n.toInt % 2 = 0 := by
    rw [← Int.dvd_iff_tmod_eq_zero, ← Int.dvd_iff_emod_eq_zero]
  constructor
  · intro h
    rw [h, h0] at e
    exact t.mp e.symm
  · intro h
    apply i_inj
    rw [e, h0]
    exact t.mpr h
theorem msqz {zs sc li : Nat → Int32} {ax : Nat} {z : Int} (h : axok (zs ax) (sc ax) (li ax)) (z1 : -40 ≤ z) (z2 : z ≤ 40) : j_M_square zs sc li ax (Int32.ofInt z) = lN (sqn (zs ax) (sc ax) (li ax) z) := by
  obtain ⟨a1, a2, a3, a4, a5, a6⟩ := id h
  obtain ⟨b1, b2⟩ := zw_bd a1 a2 z1 z2
  have ez : (Int32.ofInt z).toInt = z := i_of (by omega) (by omega)
  have em : ((Int32.ofInt z).toInt64 * (zs ax).toInt64).toInt = z * (zs ax).toInt := by rw [l_mul (by rw [i_l, i_l, ez]; omega) (by rw [i_l, i_l, ez]; omega), i_l, i_l, ez]
  have es : ((zs ax) - (sc ax)).toInt = (zs ax).toInt - (sc ax).toInt := i_sub (by omega) (by omega)
  unfold j_M_square
  by_cases c : Int32.ofInt z - Int32.ofInt z / 2 * 2 = 0
  · have c2 := (ev2 _).mp c
    rw [ez] at c2
    rw [if_pos c]
    refine sq_of h z1 z2 ?_
    have e1 : ((Int32.ofInt z).toInt64 * (zs ax).toInt64 + (sc ax).toInt64).toInt = z * (zs ax).toInt + (sc ax).toInt := by rw [l_add (by rw [em, i_l]; omega) (by rw [em, i_l]; omega), em, i_l]
    rw [l_sub (by rw [e1, i_l]; omega) (by rw [e1, i_l]; omega), e1, i_l]
    unfold dif
    rw [if_pos c2]
  · have c2 : ¬ z % 2 = 0 := fun q => c ((ev2 _).mpr (by rw [ez]; exact q))
    rw [if_neg c]
    refine sq_of h z1 z2 ?_
    have e1 : ((Int32.ofInt z).toInt64 * (zs ax).toInt64 + ((zs ax) - (sc ax)).toInt64).toInt = z * (zs ax).toInt + ((zs ax).toInt - (sc ax).toInt) := by rw [l_add (by rw [em, i_l, es]; omega) (by rw [em, i_l, es]; omega), em, i_l, es]
    rw [l_sub (by rw [e1, i_l]; omega) (by rw [e1, i_l]; omega), e1, i_l]
    unfold dif
    rw [if_neg c2]
def qz (zs sc li : Nat → Int32) (ax i : Nat) : Nat := sqn (zs ax) (sc ax) (li ax) ((i : Int) - 40)
theorem msq {zs sc li : Nat → Int32} {ax k : Nat} (h : axok (zs ax) (sc ax) (li ax)) (hk : k < 81) : j_M_square zs sc li ax (nz k) = lN (qz zs sc li ax k) := msqz h (by omega) (by omega)
theorem qz_bd {zs sc li : Nat → Int32} {ax k : Nat} (h : axok (zs ax) (sc ax) (li ax)) (hk : k < 81) : qz zs sc li ax k < 2147483648 := sqn_bd h (by omega) (by omega)
/-- an axis of which k numbers are done -/
def PA (zs sc li : Nat → Int32) (sq so : Nat → Int64) (ax k : Nat) : Prop :=
  (∀ i, i < k → sq (81 * ax + i) = lN (qz zs sc li ax i)) ∧ ∃ s : Nat → Nat, (∀ i, i < k → so (81 * ax + i) = lN (s i)) ∧ (∀ i, i < k → s i < 2147483648) ∧ (∀ i j, i < j → j < k → s i ≤ s j) ∧ ∀ g : Nat → Nat, sm (fun i => g (s i)) k = sm (fun i => g (qz zs sc li ax i)) k
theorem PA_0 (zs sc li : Nat → Int32) (sq so : Nat → Int64) (ax : Nat) : PA zs sc li sq so ax 0 :=
  ⟨fun i hi => absurd hi (Nat.not_lt_zero i), fun _ => 0, fun i hi => absurd hi (Nat.not_lt_zero i), fun i hi => absurd hi (Nat.not_lt_zero i), fun i j _ hj => absurd hj (Nat.not_lt_zero j), fun _ => rfl⟩
theorem ins_off {α : Type} (f : Nat → α) (B p k : Nat) (v : α) {i : Nat} (hp : p ≤ k) (hi : i ≤ k) : ins f (B + p) (B + k) v (B + i) = ins (fun j => f (B + j)) p k v i := by
  rcases Nat.lt_trichotomy i p with q | q | q
  · rw [ins_lt (by omega), ins_lt q]
  · subst q; rw [ins_eq, ins_eq]
  · rw [ins_gt (by omega) (by omega), ins_gt q hi, show B + i - 1 = B + (i - 1) by omega]
theorem PA_step {zs sc li : Nat → Int32} {sq so : Nat → Int64} {ax k : Nat} (hx : axok (zs ax) (sc ax) (li ax)) (hk : k < 81) (h : PA zs sc li sq so ax k) :
    PA zs sc li (vp_updL sq (81 * ax + k) (lN (qz zs sc li ax k))) (ins so (81 * ax + mi_p (fun j => so (81 * ax + j)) (lN (qz zs sc li ax k)) k) (81 * ax + k) (lN (qz zs sc li ax k))) ax (k + 1) := by
  obtain ⟨h1, s, h2, h3, h4, h5⟩ := h
  have bq := qz_bd hx hk
  obtain ⟨m1, m2, m3⟩ := mi_le (fun j => so (81 * ax + j)) (lN (qz zs sc li ax k)) k
  generalize mi_p (fun j => so (81 * ax + j)) (lN (qz zs sc li ax k)) k = p at m1 m2 m3
  have hp2 : ∀ i, p ≤ i → i < k → qz zs sc li ax k < s i := by
    intro i q1 q2
    have := m2 i q1 q2
    have b := h3 i q2
    rw [h2 i q2, ln_le (by omega) (by omega)] at this
    omega
  have hp3 : ∀ i, i < p → s i ≤ qz zs sc li ax k := by
    intro i hi
    rcases m3 with q | q
    · omega
    · have b := h3 (p - 1) (by omega)
      rw [h2 (p - 1) (by omega), ln_le (by omega) (by omega)] at q
      by_cases z : i = p - 1
      · rw [z]; exact q
      · have := h4 i (p - 1) (by omega) (by omega)
        omega
  refine ⟨fun i hi => ?_, ins s p k (qz zs sc li ax k), fun i hi => ?_, fun i hi => ?_, fun i j hij hj => ?_, fun g => ?_⟩
  · unfold vp_updL
    by_cases q : i = k
    · subst q; rw [if_pos rfl]
    · rw [if_neg (by omega)]; exact h1 i (by omega)
  · rw [ins_off so (81 * ax) p k _ m1 (by omega)]
    exact ins_map (f := fun j => so (81 * ax + j)) (g := lN) m1 h2 i hi
  · rcases Nat.lt_trichotomy i p with q | q | q
    · rw [ins_lt q]; exact h3 i (by omega)
    · subst q; rw [ins_eq]; exact bq
    · rw [ins_gt q (by omega)]; exact h3 _ (by omega)
  · rcases Nat.lt_trichotomy j p with q | q | q
    · rw [ins_lt q, ins_lt (by omega)]; exact h4 i j hij (by omega)
    · subst q; rw [ins_eq, ins_lt hij]; exact hp3 i hij
    · rw [ins_gt q (by omega)]
      rcases Nat.lt_trichotomy i p with z | z | z
      · rw [ins_lt z]
        by_cases y : i = j - 1
        · omega
        · exact h4 i (j - 1) (by omega) (by omega)
      · subst z; rw [ins_eq]
        have := hp2 (j - 1) (by omega) (by omega)
        omega
      · rw [ins_gt z (by omega)]
        exact h4 (i - 1) (j - 1) (by omega) (by omega)
  · rw [sm_ins g s p _ k m1, h5 g]
    rfl
theorem PA_keep {zs sc li : Nat → Int32} {sq so sq' so' : Nat → Int64} {a : Nat} {N : Nat} (h : PA zs sc li sq so a 81) (hN : 81 * a + 81 ≤ N) (h1 : ∀ i, i < N → sq' i = sq i) (h2 : ∀ i, i < N → so' i = so i) : PA zs sc li sq' so' a 81 := by
  obtain ⟨q1, s, q2, q3, q4, q5⟩ := h
  exact ⟨fun i hi => by rw [h1 _ (by omega)]; exact q1 i hi, s, fun i hi => by rw [h2 _ (by omega)]; exact q2 i hi, q3, q4, q5⟩
theorem PA_keep2 {zs sc li : Nat → Int32} {sq so : Nat → Int64} {ax k p : Nat} {v w : Int64} (h : ∀ a, a < ax → PA zs sc li sq so a 81) : ∀ a, a < ax → PA zs sc li (vp_updL sq (81 * ax + k) v) (ins so (81 * ax + p) (81 * ax + k) w) a 81 :=
  fun a ha => PA_keep (h a ha) (N := 81 * ax) (by omega) (fun i hi => by unfold vp_updL; rw [if_neg (by omega)]) (fun i hi => ins_lt (by omega))
theorem PA_next {zs sc li : Nat → Int32} {sq so : Nat → Int64} {ax : Nat} (h : ∀ a, a < ax → PA zs sc li sq so a 81) (h2 : PA zs sc li sq so ax 81) : ∀ a, a < ax + 1 → PA zs sc li sq so a 81 := by
  intro a ha
  by_cases q : a = ax
  · subst q; exact h2
  · exact h a (by omega)
