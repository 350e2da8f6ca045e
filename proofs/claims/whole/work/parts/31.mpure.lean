/-! THE REFERENCE, pure: insertion, sums, what collect holds -/
def sf {α : Type} (f : Nat → α) (k n : Nat) : Nat → α := fun j => if k < j ∧ j ≤ n then f (j - 1) else f j
def ins {α : Type} (f : Nat → α) (p n : Nat) (v : α) : Nat → α := fun j => if j = p then v else sf f p n j
theorem sf_n {α : Type} (f : Nat → α) (n : Nat) : sf f n n = f := by
  funext j
  exact if_neg (by omega)
theorem sf_lo {α : Type} (f : Nat → α) (j n : Nat) : sf f (j + 1) n j = f j := if_neg (by omega)
theorem sf_st {α : Type} (f : Nat → α) {j n : Nat} (h : j + 1 ≤ n) (i : Nat) : (if i = j + 1 then f j else sf f (j + 1) n i) = sf f j n i := by
  unfold sf
  by_cases q : i = j + 1
  · subst q
    rw [if_pos rfl, if_pos (by omega)]
    rfl
  · rw [if_neg q]
    by_cases q2 : j + 1 < i ∧ i ≤ n
    · rw [if_pos q2, if_pos (by omega)]
    · rw [if_neg q2, if_neg (by omega)]
theorem sf_stL (f : Nat → Int64) {j n : Nat} (h : j + 1 ≤ n) : vp_updL (sf f (j + 1) n) (j + 1) (sf f (j + 1) n j) = sf f j n := by
  funext i
  rw [sf_lo]
  exact sf_st f h i
theorem sf_stI (f : Nat → Int32) {j n : Nat} (h : j + 1 ≤ n) : upd (sf f (j + 1) n) (j + 1) (sf f (j + 1) n j) = sf f j n := by
  funext i
  rw [sf_lo]
  exact sf_st f h i
def mi_p (ds : Nat → Int64) (d : Int64) : Nat → Nat
  | 0 => 0
  | k + 1 => if ds k ≤ d then k + 1 else mi_p ds d k
theorem mi_le (ds : Nat → Int64) (d : Int64) : ∀ n, mi_p ds d n ≤ n ∧ (∀ k, mi_p ds d n ≤ k → k < n → ¬ ds k ≤ d) ∧ (mi_p ds d n = 0 ∨ ds (mi_p ds d n - 1) ≤ d) := by
  intro n
  induction n with
  | zero => exact ⟨Nat.le_refl _, fun k _ h => absurd h (Nat.not_lt_zero k), Or.inl rfl⟩
  | succ n ih =>
    have e : mi_p ds d (n + 1) = if ds n ≤ d then n + 1 else mi_p ds d n := rfl
    by_cases q : ds n ≤ d
    · rw [e, if_pos q]
      exact ⟨Nat.le_refl _, fun k h1 h2 => by omega, Or.inr q⟩
    · rw [e, if_neg q]
      refine ⟨by omega, fun k h1 h2 => ?_, ih.2.2⟩
      by_cases qk : k = n
      · subst qk; exact q
      · exact ih.2.1 k h1 (by omega)
theorem ins_lt {α : Type} {f : Nat → α} {p n : Nat} {v : α} {k : Nat} (h : k < p) : ins f p n v k = f k := by
  unfold ins sf
  rw [if_neg (by omega), if_neg (by omega)]
theorem ins_eq {α : Type} {f : Nat → α} {p n : Nat} {v : α} : ins f p n v p = v := if_pos rfl
theorem ins_gt {α : Type} {f : Nat → α} {p n : Nat} {v : α} {k : Nat} (h : p < k) (h2 : k ≤ n) : ins f p n v k = f (k - 1) := by
  unfold ins sf
  rw [if_neg (by omega), if_pos ⟨h, h2⟩]
theorem ins_out {α : Type} {f : Nat → α} {p n : Nat} {v : α} {k : Nat} (h : n < k) (hp : p ≤ n) : ins f p n v k = f k := by
  unfold ins sf
  rw [if_neg (by omega), if_neg (by omega)]
/-- sums -/
def sm (g : Nat → Nat) : Nat → Nat
  | 0 => 0
  | n + 1 => sm g n + g n
theorem sm_s (g : Nat → Nat) (n : Nat) : sm g (n + 1) = sm g n + g n := rfl
theorem sm_ext {g h : Nat → Nat} {n : Nat} (e : ∀ i, i < n → g i = h i) : sm g n = sm h n := by
  induction n with
  | zero => rfl
  | succ n ih => rw [sm_s, sm_s, ih (fun i hi => e i (by omega)), e n (by omega)]
theorem sm_mono (g : Nat → Nat) {m n : Nat} (h : m ≤ n) : sm g m ≤ sm g n := by
  induction n with
  | zero => rw [show m = 0 by omega]; exact Nat.le_refl _
  | succ n ih =>
    by_cases q : m = n + 1
    · rw [q]; exact Nat.le_refl _
    · have := ih (by omega)
      rw [sm_s]; omega
theorem sm_add (g : Nat → Nat) (m k : Nat) : sm g (m + k) = sm g m + sm (fun c => g (m + c)) k := by
  induction k with
  | zero => rfl
  | succ k ih => rw [← Nat.add_assoc, sm_s, ih, sm_s]; omega
theorem sm_two (g h : Nat → Nat) (n : Nat) : sm (fun i => g i + h i) n = sm g n + sm h n := by
  induction n with
  | zero => rfl
  | succ n ih => rw [sm_s, sm_s, sm_s, ih]; omega
theorem sm_lin (g : Nat → Nat) (n : Nat) : sm g (81 * n) = sm (fun b => sm (fun c => g (81 * b + c)) 81) n := by
  induction n with
  | zero => rfl
  | succ n ih =>
    rw [show 81 * (n + 1) = 81 * n + 81 by omega, sm_add, ih]
    rfl
theorem sm_ins {α : Type} (g : α → Nat) (f : Nat → α) (p : Nat) (v : α) : ∀ n, p ≤ n → sm (fun i => g (ins f p n v i)) (n + 1) = sm (fun i => g (f i)) n + g v := by
  intro n hn
  have low : ∀ m, m ≤ p → sm (fun i => g (ins f p n v i)) m = sm (fun i => g (f i)) m := fun m hm => sm_ext (fun i hi => by rw [ins_lt (by omega)])
  have key : ∀ k, p + k ≤ n → sm (fun i => g (ins f p n v i)) (p + k + 1) = sm (fun i => g (f i)) (p + k) + g v := by
    intro k
    induction k with
    | zero => intro _; rw [sm_s, Nat.add_zero, low p (Nat.le_refl _), ins_eq]
    | succ k ih =>
      intro hk
      have e := ih (by omega)
      have e2 : sm (fun i => g (f i)) (p + k + 1) = sm (fun i => g (f i)) (p + k) + g (f (p + k)) := rfl
      rw [show p + (k + 1) = p + k + 1 by omega, sm_s, e, ins_gt (by omega) (by omega), e2, Nat.add_sub_cancel]
      omega
  have := key (n - p) (by omega)
  rwa [show p + (n - p) = n by omega] at this
/-- a row and its sorted self: the same sums -/
def SS (s q : Nat → Nat) : Prop := ∀ g : Nat → Nat, sm (fun i => g (s i)) 81 = sm (fun i => g (q i)) 81
def dl (q0 q1 q2 : Nat → Nat) (t : Nat) : Nat := q0 (t / 6561) + q1 (t / 81 % 81) + q2 (t % 81)
def c3 (s0 s1 s2 : Nat → Nat) (M : Nat) : Nat := sm (fun i => sm (fun j => sm (fun k => if s0 i + s1 j + s2 k ≤ M then 1 else 0) 81) 81) 81
theorem c3_ss {s0 s1 s2 q0 q1 q2 : Nat → Nat} (h0 : SS s0 q0) (h1 : SS s1 q1) (h2 : SS s2 q2) (M : Nat) : c3 s0 s1 s2 M = c3 q0 q1 q2 M := by
  unfold c3
  rw [h0 (fun x => sm (fun j => sm (fun k => if x + s1 j + s2 k ≤ M then 1 else 0) 81) 81)]
  refine sm_ext (fun i _ => ?_)
  rw [h1 (fun x => sm (fun k => if q0 i + x + s2 k ≤ M then 1 else 0) 81)]
  refine sm_ext (fun j _ => ?_)
  exact h2 (fun x => if q0 i + q1 j + x ≤ M then 1 else 0)
theorem c3_lin (q0 q1 q2 : Nat → Nat) (M : Nat) : c3 q0 q1 q2 M = sm (fun t => if dl q0 q1 q2 t ≤ M then 1 else 0) 531441 := by
  rw [show 531441 = 81 * 6561 from rfl, sm_lin, show 6561 = 81 * 81 from rfl, sm_lin]
  unfold c3
  refine sm_ext (fun i hi => sm_ext (fun j hj => sm_ext (fun k hk => ?_)))
  unfold dl
  rw [show (81 * (81 * i + j) + k) / 6561 = i by omega, show (81 * (81 * i + j) + k) / 81 % 81 = j by omega, show (81 * (81 * i + j) + k) % 81 = k by omega]
/-- the count of a prefix -/
theorem cp_all {P : Nat → Prop} [∀ k, Decidable (P k)] {k : Nat} (h : ∀ i, i < k → P i) : sm (fun i => if P i then 1 else 0) k = k := by
  induction k with
  | zero => rfl
  | succ k ih => rw [sm_s, ih (fun i hi => h i (by omega)), if_pos (h k (by omega))]
theorem cp_le {P : Nat → Prop} [∀ k, Decidable (P k)] {k n : Nat} (h : ∀ i, i < k → P i) (hk : k ≤ n) : k ≤ sm (fun i => if P i then 1 else 0) n := by
  have e : sm (fun i => if P i then 1 else 0) k = k := cp_all h
  have := sm_mono (fun i => if P i then 1 else 0) hk
  omega
theorem cp_eq {P : Nat → Prop} [∀ k, Decidable (P k)] {k n : Nat} (h : ∀ i, i < k → P i) (hk : k ≤ n) (h2 : ∀ i, k ≤ i → i < n → ¬ P i) : sm (fun i => if P i then 1 else 0) n = k := by
  have e : ∀ d, k + d ≤ n → sm (fun i => if P i then 1 else 0) (k + d) = k := by
    intro d
    induction d with
    | zero => intro _; exact cp_all h
    | succ d ih =>
      intro hd
      rw [← Nat.add_assoc, sm_s, ih (by omega), if_neg (h2 _ (by omega) (by omega)), Nat.add_zero]
  have := e (n - k) (by omega)
  rwa [show k + (n - k) = n by omega] at this
