/-! PURE: the first k of N * N * N keys in their order, by a frontier: each node but the root waits for one that is less. -/
theorem pu_pig : ∀ (k : Nat) (g : Nat → Nat), (∀ t, t < k + 1 → g t < k) → ∃ a b, a < b ∧ b < k + 1 ∧ g a = g b := by
  intro k
  induction k with
  | zero => intro g h; exact absurd (h 0 (by omega)) (by omega)
  | succ k ih =>
    intro g h
    by_cases c : ∃ a, a < k + 1 ∧ g a = g (k + 1)
    · obtain ⟨a, h1, h2⟩ := c
      exact ⟨a, k + 1, h1, by omega, h2⟩
    · have ne : ∀ a, a < k + 1 → g a ≠ g (k + 1) := fun a h1 h2 => c ⟨a, h1, h2⟩
      have hx := h (k + 1) (by omega)
      obtain ⟨a, b, h1, h2, h3⟩ := ih (fun t => if g t = k then g (k + 1) else g t) (by
        intro t ht
        have n1 := ne t ht
        have n2 := h t (by omega)
        (try dsimp only)
        split <;> omega)
      refine ⟨a, b, h1, by omega, ?_⟩
      have n1 := ne a (by omega)
      have n2 := ne b h2
      (try dsimp only at h3)
      split at h3 <;> split at h3 <;> omega
/-- the node has come out in one of the first k steps -/
def pu_tk (K : Nat → Nat → Nat → Int64) (E : Nat → Int64) (k i j m : Nat) : Prop := ∃ t, t < k ∧ E t = K i j m
/-- the node's own one before it has come out, or it is the root -/
def pu_wt (K : Nat → Nat → Nat → Int64) (E : Nat → Int64) (k i j m : Nat) : Prop :=
  (m ≠ 0 ∧ pu_tk K E k i j (m - 1)) ∨ (m = 0 ∧ j ≠ 0 ∧ pu_tk K E k i (j - 1) 0) ∨ (m = 0 ∧ j = 0 ∧ i ≠ 0 ∧ pu_tk K E k (i - 1) 0 0) ∨ (m = 0 ∧ j = 0 ∧ i = 0)
/-- keys that rise from each node to those that wait for it, and tell the nodes apart -/
def pu_KK (N : Nat) (K : Nat → Nat → Nat → Int64) : Prop :=
  (∀ i j m a b c, i < N → j < N → m < N → a < N → b < N → c < N → K i j m = K a b c → i = a ∧ j = b ∧ m = c) ∧
  (∀ i j m, i < N → j < N → m + 1 < N → K i j m < K i j (m + 1)) ∧ (∀ i j, i < N → j + 1 < N → K i j 0 < K i (j + 1) 0) ∧ (∀ i, i + 1 < N → K i 0 0 < K (i + 1) 0 0)
/-- the first k are out, in their order; those that could be next are in the heap f of n -/
def pu_FI (N : Nat) (K : Nat → Nat → Nat → Int64) (E f : Nat → Int64) (k n : Nat) : Prop :=
  (∀ t, t < k → ∃ i j m, i < N ∧ j < N ∧ m < N ∧ E t = K i j m) ∧ (∀ a b, a < b → b < k → E a < E b) ∧
  (∀ i j m, i < N → j < N → m < N → ¬ pu_tk K E k i j m → ∀ t, t < k → E t < K i j m) ∧ pu_hp n f ∧ pu_hi n f ∧
  (∀ v, pu_hs n f v ↔ ∃ i j m, i < N ∧ j < N ∧ m < N ∧ ¬ pu_tk K E k i j m ∧ pu_wt K E k i j m ∧ v = K i j m) ∧ n ≤ 1 + 2 * k
/-- for every node that isn't out there is one in the frontier that isn't more -/
theorem pu_low {N : Nat} {K : Nat → Nat → Nat → Int64} {E : Nat → Int64} {k : Nat} (hK : pu_KK N K) : ∀ (d i j m : Nat), i + j + m ≤ d → i < N → j < N → m < N → ¬ pu_tk K E k i j m →
    ∃ a b c, a < N ∧ b < N ∧ c < N ∧ ¬ pu_tk K E k a b c ∧ pu_wt K E k a b c ∧ K a b c ≤ K i j m := by
  intro d
  induction d with
  | zero =>
    intro i j m hd hi hj hm ht
    exact ⟨i, j, m, hi, hj, hm, ht, Or.inr (Or.inr (Or.inr ⟨by omega, by omega, by omega⟩)), pu_rf⟩
  | succ d ih =>
    intro i j m hd hi hj hm ht
    by_cases w : pu_wt K E k i j m
    · exact ⟨i, j, m, hi, hj, hm, ht, w, pu_rf⟩
    · by_cases m0 : m = 0
      · by_cases j0 : j = 0
        · by_cases i0 : i = 0
          · exact absurd (Or.inr (Or.inr (Or.inr ⟨m0, j0, i0⟩))) w
          · subst m0; subst j0
            obtain ⟨a, b, c, h1, h2, h3, h4, h5, h6⟩ := ih (i - 1) 0 0 (by omega) (by omega) hj hm (fun q => w (Or.inr (Or.inr (Or.inl ⟨rfl, rfl, i0, q⟩))))
            refine ⟨a, b, c, h1, h2, h3, h4, h5, pu_tr h6 ?_⟩
            have := hK.2.2.2 (i - 1) (by omega)
            rw [Nat.sub_add_cancel (by omega)] at this
            exact pu_ltle this
        · subst m0
          obtain ⟨a, b, c, h1, h2, h3, h4, h5, h6⟩ := ih i (j - 1) 0 (by omega) hi (by omega) hm (fun q => w (Or.inr (Or.inl ⟨rfl, j0, q⟩)))
          refine ⟨a, b, c, h1, h2, h3, h4, h5, pu_tr h6 ?_⟩
          have := hK.2.2.1 i (j - 1) hi (by omega)
          rw [Nat.sub_add_cancel (by omega)] at this
          exact pu_ltle this
      · obtain ⟨a, b, c, h1, h2, h3, h4, h5, h6⟩ := ih i j (m - 1) (by omega) hi hj (by omega) (fun q => w (Or.inl ⟨m0, q⟩))
        refine ⟨a, b, c, h1, h2, h3, h4, h5, pu_tr h6 ?_⟩
        have := hK.2.1 i j (m - 1) hi hj (by omega)
        rw [Nat.sub_add_cancel (by omega)] at this
        exact pu_ltle this
/-- of N * N nodes (0, j, m) not all are out in fewer steps -/
theorem pu_left {N : Nat} {K : Nat → Nat → Nat → Int64} {E : Nat → Int64} {k : Nat} (hK : pu_KK N K) (h0 : 0 < N) (hk : k < N * N) : ∃ j m, j < N ∧ m < N ∧ ¬ pu_tk K E k 0 j m := by
  refine Classical.byContradiction fun hno => ?_
  have all : ∀ t, t < k + 1 → pu_tk K E k 0 (t / N) (t % N) := by
    intro t ht
    refine Classical.byContradiction fun q => hno ⟨t / N, t % N, ?_, Nat.mod_lt _ h0, q⟩
    exact Nat.div_lt_of_lt_mul (by omega)
  have ch : ∀ t, ∃ s, t < k + 1 → s < k ∧ E s = K 0 (t / N) (t % N) := by
    intro t
    by_cases ht : t < k + 1
    · obtain ⟨s, h1, h2⟩ := all t ht
      exact ⟨s, fun _ => ⟨h1, h2⟩⟩
    · exact ⟨0, fun q => absurd q ht⟩
  obtain ⟨a, b, h1, h2, h3⟩ := pu_pig k (fun t => Classical.choose (ch t)) (fun t ht => (Classical.choose_spec (ch t) ht).1)
  have ea := (Classical.choose_spec (ch a) (by omega)).2
  have eb := (Classical.choose_spec (ch b) h2).2
  (try dsimp only at h3)
  rw [h3, eb] at ea
  obtain ⟨-, q1, q2⟩ := hK.1 _ _ _ _ _ _ h0 (Nat.div_lt_of_lt_mul (by omega)) (Nat.mod_lt _ h0) h0 (Nat.div_lt_of_lt_mul (by omega)) (Nat.mod_lt _ h0) ea
  have x1 := Nat.div_add_mod a N
  have x2 := Nat.div_add_mod b N
  rw [q1, q2] at x2
  omega
/-- a step: the least comes out; what waited for it comes in -/
theorem pu_step {N : Nat} {K : Nat → Nat → Nat → Int64} {E f f' : Nat → Int64} {k n n' : Nat} (hK : pu_KK N K) (h : pu_FI N K E f k n) (i j m : Nat) (hi : i < N) (hj : j < N) (hm : m < N) (hn : 0 < n) (hv : f 0 = K i j m)
    (h1 : pu_hp n' f') (h2 : pu_hi n' f') (hn' : n' ≤ n + 2)
    (h3 : ∀ v, pu_hs n' f' v ↔ (pu_hs n f v ∧ v ≠ f 0) ∨ (m + 1 < N ∧ v = K i j (m + 1)) ∨ (m = 0 ∧ j + 1 < N ∧ v = K i (j + 1) 0) ∨ (m = 0 ∧ j = 0 ∧ i + 1 < N ∧ v = K (i + 1) 0 0)) :
    pu_FI N K (vp_updL E k (f 0)) f' (k + 1) n' := by
  obtain ⟨g1, g2, g3, g4, g5, g6, g7⟩ := h
  have tk : ∀ a b c, pu_tk K (vp_updL E k (f 0)) (k + 1) a b c ↔ pu_tk K E k a b c ∨ K a b c = K i j m := by
    intro a b c
    constructor
    · rintro ⟨t, ht, e⟩
      by_cases q : t = k
      · subst q
        rw [pu_us, hv] at e
        exact Or.inr e.symm
      · rw [pu_un q] at e
        exact Or.inl ⟨t, by omega, e⟩
    · rintro (⟨t, ht, e⟩ | e)
      · exact ⟨t, by omega, by rw [pu_un (by omega)]; exact e⟩
      · exact ⟨k, by omega, by rw [pu_us, hv, e]⟩
  obtain ⟨a0, b0, c0, x1, x2, x3, x4, x5, x6⟩ := (g6 (f 0)).mp ⟨0, hn, rfl⟩
  have me : a0 = i ∧ b0 = j ∧ c0 = m := hK.1 _ _ _ _ _ _ x1 x2 x3 hi hj hm (by rw [← x6, hv])
  obtain ⟨rfl, rfl, rfl⟩ := me
  have least : ∀ a b c, a < N → b < N → c < N → ¬ pu_tk K E k a b c → f 0 ≤ K a b c := by
    intro a b c ha hb hc ht
    obtain ⟨a', b', c', y1, y2, y3, y4, y5, y6⟩ := pu_low hK _ a b c (Nat.le_refl _) ha hb hc ht
    obtain ⟨r, z1, z2⟩ := (g6 (K a' b' c')).mpr ⟨a', b', c', y1, y2, y3, y4, y5, rfl⟩
    exact pu_tr (by rw [← z2]; exact pu_root g4 r z1) y6
  have up : ∀ a b c, a < N → b < N → c < N → ¬ pu_tk K (vp_updL E k (f 0)) (k + 1) a b c → f 0 < K a b c := by
    intro a b c ha hb hc ht
    rw [tk] at ht
    have q := least a b c ha hb hc (fun z => ht (Or.inl z))
    rw [hv] at q ⊢
    have ne : K a b c ≠ K a0 b0 c0 := fun z => ht (Or.inr z)
    rw [pu_le] at q
    rw [pu_lt]
    have : (K a b c).toInt ≠ (K a0 b0 c0).toInt := fun z => ne (Int64.toInt_inj.mp z)
    omega
  refine ⟨?_, ?_, ?_, h1, h2, ?_, by omega⟩
  · intro t ht
    by_cases q : t = k
    · subst q
      exact ⟨a0, b0, c0, hi, hj, hm, by rw [pu_us]; exact hv⟩
    · rw [pu_un q]
      exact g1 t (by omega)
  · intro a b hab hb
    by_cases q : b = k
    · subst q
      rw [pu_us, pu_un (by omega), hv]
      exact g3 a0 b0 c0 hi hj hm x4 a hab
    · rw [pu_un q, pu_un (by omega)]
      exact g2 a b hab (by omega)
  · intro a b c ha hb hc ht t htk
    by_cases q : t = k
    · subst q
      rw [pu_us]
      exact up a b c ha hb hc ht
    · rw [pu_un q]
      exact g3 a b c ha hb hc (fun z => ht ((tk a b c).mpr (Or.inl z))) t (by omega)
  · intro v
    have kid : ∀ a b c, a < N → b < N → c < N → K a0 b0 c0 < K a b c → ¬ pu_tk K (vp_updL E k (f 0)) (k + 1) a b c := by
      intro a b c ha hb hc hlt q
      rw [pu_lt] at hlt
      rcases (tk a b c).mp q with ⟨t, z1, z2⟩ | z
      · have := g3 a0 b0 c0 hi hj hm x4 t z1
        rw [pu_lt, z2] at this
        omega
      · rw [z] at hlt
        omega
    rw [h3 v]
    constructor
    · rintro (⟨y1, y2⟩ | ⟨y1, y2⟩ | ⟨y1, y2, y3⟩ | ⟨y1, y2, y3, y4⟩)
      · obtain ⟨a, b, c, z1, z2, z3, z4, z5, z6⟩ := (g6 v).mp y1
        refine ⟨a, b, c, z1, z2, z3, fun q => ?_, ?_, z6⟩
        · rcases (tk a b c).mp q with q | q
          · exact z4 q
          · exact y2 (by rw [z6, q, hv])
        · rcases z5 with ⟨u1, u2⟩ | ⟨u1, u2, u3⟩ | ⟨u1, u2, u3, u4⟩ | u
          · exact Or.inl ⟨u1, (tk _ _ _).mpr (Or.inl u2)⟩
          · exact Or.inr (Or.inl ⟨u1, u2, (tk _ _ _).mpr (Or.inl u3)⟩)
          · exact Or.inr (Or.inr (Or.inl ⟨u1, u2, u3, (tk _ _ _).mpr (Or.inl u4)⟩))
          · exact Or.inr (Or.inr (Or.inr u))
      · exact ⟨a0, b0, c0 + 1, hi, hj, y1, kid _ _ _ hi hj y1 (hK.2.1 _ _ _ hi hj y1), Or.inl ⟨by omega, (tk _ _ _).mpr (Or.inr rfl)⟩, y2⟩
      · subst y1
        exact ⟨a0, b0 + 1, 0, hi, y2, hm, kid _ _ _ hi y2 hm (hK.2.2.1 _ _ hi y2), Or.inr (Or.inl ⟨rfl, by omega, (tk _ _ _).mpr (Or.inr rfl)⟩), y3⟩
      · subst y1; subst y2
        exact ⟨a0 + 1, 0, 0, y3, hj, hm, kid _ _ _ y3 hj hm (hK.2.2.2 _ y3), Or.inr (Or.inr (Or.inl ⟨rfl, rfl, by omega, (tk _ _ _).mpr (Or.inr rfl)⟩)), y4⟩
    · rintro ⟨a, b, c, z1, z2, z3, z4, z5, z6⟩
      have n1 : ¬ pu_tk K E k a b c := fun q => z4 ((tk a b c).mpr (Or.inl q))
      have n2 : K a b c ≠ K a0 b0 c0 := fun q => z4 ((tk a b c).mpr (Or.inr q))
      by_cases w : pu_wt K E k a b c
      · exact Or.inl ⟨(g6 v).mpr ⟨a, b, c, z1, z2, z3, n1, w, z6⟩, by rw [z6, hv]; exact n2⟩
      · rcases z5 with ⟨u1, u2⟩ | ⟨u1, u2, u3⟩ | ⟨u1, u2, u3, u4⟩ | u
        · rcases (tk _ _ _).mp u2 with q | q
          · exact absurd (Or.inl ⟨u1, q⟩) w
          · obtain ⟨e1, e2, e3⟩ := hK.1 _ _ _ _ _ _ z1 z2 (by omega) hi hj hm q
            subst e1; subst e2
            have : c = c0 + 1 := by omega
            subst this
            exact Or.inr (Or.inl ⟨z3, z6⟩)
        · rcases (tk _ _ _).mp u3 with q | q
          · exact absurd (Or.inr (Or.inl ⟨u1, u2, q⟩)) w
          · obtain ⟨e1, e2, e3⟩ := hK.1 _ _ _ _ _ _ z1 (by omega) (by omega) hi hj hm q
            subst e1
            have : b = b0 + 1 := by omega
            subst this
            subst u1
            exact Or.inr (Or.inr (Or.inl ⟨e3.symm, z2, z6⟩))
        · rcases (tk _ _ _).mp u4 with q | q
          · exact absurd (Or.inr (Or.inr (Or.inl ⟨u1, u2, u3, q⟩))) w
          · obtain ⟨e1, e2, e3⟩ := hK.1 _ _ _ _ _ _ (by omega) (by omega) (by omega) hi hj hm q
            have : a = a0 + 1 := by omega
            subst this
            subst u1
            subst u2
            exact Or.inr (Or.inr (Or.inr ⟨e3.symm, e2.symm, z1, z6⟩))
        · exact absurd (Or.inr (Or.inr (Or.inr u))) w
/-- while steps are left the heap isn't empty, and its root is a node -/
theorem pu_more {N : Nat} {K : Nat → Nat → Nat → Int64} {E f : Nat → Int64} {k n : Nat} (hK : pu_KK N K) (h : pu_FI N K E f k n) (h0 : 0 < N) (hk : k < N * N) : 0 < n ∧ ∃ i j m, i < N ∧ j < N ∧ m < N ∧ f 0 = K i j m := by
  obtain ⟨j, m, hj, hm, ht⟩ := pu_left (E := E) hK h0 hk
  obtain ⟨a, b, c, y1, y2, y3, y4, y5, y6⟩ := pu_low hK _ 0 j m (Nat.le_refl _) h0 hj hm ht
  obtain ⟨r, z1, z2⟩ := (h.2.2.2.2.2.1 (K a b c)).mpr ⟨a, b, c, y1, y2, y3, y4, y5, rfl⟩
  have hn : 0 < n := by omega
  obtain ⟨a0, b0, c0, x1, x2, x3, -, -, x6⟩ := (h.2.2.2.2.2.1 (f 0)).mp ⟨0, hn, rfl⟩
  exact ⟨hn, a0, b0, c0, x1, x2, x3, x6⟩
/-- an axis's row: squares and raised numbers, in their order -/
def pu_ax (s n : Nat → Nat) : Prop := (∀ i, i < 81 → s i < 2147483648 ∧ n i < 81) ∧ (∀ i j, i < 81 → j < 81 → n i = n j → i = j) ∧ ∀ i, i + 1 < 81 → s i < s (i + 1) ∨ (s i = s (i + 1) ∧ n i < n (i + 1))
def pu_k3 (d a b c : Nat) : Nat := ((d * 128 + a) * 128 + b) * 128 + c
theorem pu_k3lt {d a b c : Nat} (hd : d < 6442450944) (ha : a < 81) (hb : b < 81) (hc : c < 81) : pu_k3 d a b c < 2 ^ 63 := by
  unfold pu_k3
  omega
theorem pu_KKof {sx sy sz nx ny nz : Nat → Nat} (hx : pu_ax sx nx) (hy : pu_ax sy ny) (hz : pu_ax sz nz) : pu_KK 81 (fun i j m => lN (pu_k3 (sx i + sy j + sz m) (nx i) (ny j) (nz m))) := by
  obtain ⟨x1, x2, x3⟩ := hx
  obtain ⟨y1, y2, y3⟩ := hy
  obtain ⟨z1, z2, z3⟩ := hz
  have bd : ∀ i j m, i < 81 → j < 81 → m < 81 → pu_k3 (sx i + sy j + sz m) (nx i) (ny j) (nz m) < 2 ^ 63 := by
    intro i j m hi hj hm
    have a1 := x1 i hi
    have a2 := y1 j hj
    have a3 := z1 m hm
    exact pu_k3lt (by omega) a1.2 a2.2 a3.2
  refine ⟨?_, ?_, ?_, ?_⟩
  · intro i j m a b c hi hj hm ha hb hc e
    have e2 := (pk_lEQ (bd i j m hi hj hm) (bd a b c ha hb hc)).mp e
    have a1 := (x1 i hi).2
    have a2 := (y1 j hj).2
    have a3 := (z1 m hm).2
    have b1 := (x1 a ha).2
    have b2 := (y1 b hb).2
    have b3 := (z1 c hc).2
    unfold pu_k3 at e2
    exact ⟨x2 i a hi ha (by omega), y2 j b hj hb (by omega), z2 m c hm hc (by omega)⟩
  · intro i j m hi hj hm
    refine (pk_lLT (bd _ _ _ hi hj (by omega)) (bd _ _ _ hi hj hm)).mpr ?_
    have a1 := (x1 i hi).2
    have a2 := (y1 j hj).2
    have a3 := (z1 m (by omega)).2
    have a4 := (z1 (m + 1) hm).2
    have a5 := z3 m hm
    unfold pu_k3
    omega
  · intro i j hi hj
    refine (pk_lLT (bd _ _ _ hi (by omega) (by omega)) (bd _ _ _ hi hj (by omega))).mpr ?_
    have a1 := (x1 i hi).2
    have a2 := (y1 j (by omega)).2
    have a3 := (z1 0 (by omega)).2
    have a4 := (y1 (j + 1) hj).2
    have a5 := y3 j hj
    unfold pu_k3
    omega
  · intro i hi
    refine (pk_lLT (bd _ _ _ (by omega) (by omega) (by omega)) (bd _ _ _ hi (by omega) (by omega))).mpr ?_
    have a1 := (x1 i (by omega)).2
    have a2 := (y1 0 (by omega)).2
    have a3 := (z1 0 (by omega)).2
    have a4 := (x1 (i + 1) hi).2
    have a5 := x3 i hi
    unfold pu_k3
    omega
