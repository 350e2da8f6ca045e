/-! PURE: arrays of longs as functions; swaps; insertion; a heap. -/
theorem pu_lt {x y : Int64} : x < y ↔ x.toInt < y.toInt := Int64.lt_iff_toInt_lt
theorem pu_le {x y : Int64} : x ≤ y ↔ x.toInt ≤ y.toInt := Int64.le_iff_toInt_le
theorem pu_nlt {x y : Int64} (h : ¬ x < y) : y ≤ x := by rw [pu_lt] at h; rw [pu_le]; omega
theorem pu_nle {x y : Int64} (h : ¬ x ≤ y) : y < x := by rw [pu_le] at h; rw [pu_lt]; omega
theorem pu_tr {x y z : Int64} (h : x ≤ y) (h2 : y ≤ z) : x ≤ z := by rw [pu_le] at *; omega
theorem pu_ltle {x y : Int64} (h : x < y) : x ≤ y := by rw [pu_lt] at h; rw [pu_le]; omega
theorem pu_rf {x : Int64} : x ≤ x := by rw [pu_le]; omega
theorem pu_us {f : Nat → Int64} {k : Nat} {x : Int64} : vp_updL f k x k = x := if_pos rfl
theorem pu_un {f : Nat → Int64} {k j : Nat} {x : Int64} (h : j ≠ k) : vp_updL f k x j = f j := if_neg h
/-- f with the places a and b changed -/
def pu_sw (f : Nat → Int64) (a b : Nat) : Nat → Int64 := fun i => if i = a then f b else if i = b then f a else f i
theorem pu_swa {f : Nat → Int64} {a b : Nat} : pu_sw f a b a = f b := if_pos rfl
theorem pu_swb {f : Nat → Int64} {a b : Nat} : pu_sw f a b b = f a := by
  unfold pu_sw
  by_cases h : b = a
  · rw [if_pos h, h]
  · rw [if_neg h, if_pos rfl]
theorem pu_swo {f : Nat → Int64} {a b i : Nat} (h1 : i ≠ a) (h2 : i ≠ b) : pu_sw f a b i = f i := by
  unfold pu_sw
  rw [if_neg h1, if_neg h2]
/-- a step of a loop that moves a hole: the array with the key in the hole has two places changed -/
theorem pu_usw {r : Nat → Int64} {t0 q : Nat} {key : Int64} (h : q ≠ t0) : vp_updL (vp_updL r t0 (r q)) q key = pu_sw (vp_updL r t0 key) t0 q := by
  funext i
  by_cases h1 : i = q
  · subst h1
    rw [pu_us, pu_swb, pu_us]
  · rw [pu_un h1]
    by_cases h2 : i = t0
    · subst h2
      rw [pu_us, pu_swa, pu_un h]
    · rw [pu_un h2, pu_swo h2 h1, pu_un h2]
/-- g's first n places hold what f's do, each as often -/
def pu_pm (n : Nat) (f g : Nat → Int64) : Prop := ∃ σ τ : Nat → Nat, (∀ i, i < n → σ i < n ∧ τ i < n ∧ σ (τ i) = i ∧ τ (σ i) = i) ∧ ∀ i, i < n → g i = f (σ i)
theorem pu_prf {n : Nat} {f : Nat → Int64} : pu_pm n f f := ⟨id, id, fun i h => ⟨h, h, rfl, rfl⟩, fun _ _ => rfl⟩
theorem pu_ptr {n : Nat} {f g h : Nat → Int64} (h1 : pu_pm n f g) (h2 : pu_pm n g h) : pu_pm n f h := by
  obtain ⟨s1, t1, a1, b1⟩ := h1
  obtain ⟨s2, t2, a2, b2⟩ := h2
  refine ⟨fun i => s1 (s2 i), fun i => t2 (t1 i), fun i hi => ?_, fun i hi => ?_⟩
  · have x1 := a2 i hi
    have x2 := a1 i hi
    have x3 := a1 (s2 i) x1.1
    have x4 := a2 (t1 i) x2.2.1
    refine ⟨x3.1, x4.2.1, ?_, ?_⟩
    · show s1 (s2 (t2 (t1 i))) = i
      rw [x4.2.2.1, x2.2.2.1]
    · show t2 (t1 (s1 (s2 i))) = i
      rw [x3.2.2.2, x1.2.2.2]
  · rw [b2 i hi, b1 _ (a2 i hi).1]
theorem pu_psm {n : Nat} {f g : Nat → Int64} (h1 : pu_pm n f g) : pu_pm n g f := by
  obtain ⟨s1, t1, a1, b1⟩ := h1
  refine ⟨t1, s1, fun i hi => ⟨(a1 i hi).2.1, (a1 i hi).1, (a1 i hi).2.2.2, (a1 i hi).2.2.1⟩, fun i hi => ?_⟩
  rw [b1 _ (a1 i hi).2.1, (a1 i hi).2.2.1]
theorem pu_psw {n : Nat} {f : Nat → Int64} {a b : Nat} (ha : a < n) (hb : b < n) : pu_pm n f (pu_sw f a b) := by
  refine ⟨fun i => if i = a then b else if i = b then a else i, fun i => if i = a then b else if i = b then a else i, fun i hi => ?_, fun i hi => ?_⟩
  · have key : ∀ j, (fun i => if i = a then b else if i = b then a else i) ((fun i => if i = a then b else if i = b then a else i) j) = j := by
      intro j
      dsimp only
      by_cases h1 : j = a
      · rw [if_pos h1]
        by_cases h2 : b = a
        · rw [if_pos h2, h1, h2]
        · rw [if_neg h2, if_pos rfl, h1]
      · rw [if_neg h1]
        by_cases h2 : j = b
        · rw [if_pos h2, if_pos rfl, h2]
        · rw [if_neg h2, if_neg h1, if_neg h2]
    have lt : (fun i => if i = a then b else if i = b then a else i) i < n := by
      dsimp only
      split
      · exact hb
      · split
        · exact ha
        · exact hi
    exact ⟨lt, lt, key i, key i⟩
  · show pu_sw f a b i = _
    unfold pu_sw
    dsimp only
    by_cases h1 : i = a
    · rw [if_pos h1, if_pos h1]
    · rw [if_neg h1, if_neg h1]
      by_cases h2 : i = b
      · rw [if_pos h2, if_pos h2]
      · rw [if_neg h2, if_neg h2]
/-- what the first n places hold -/
def pu_hs (n : Nat) (f : Nat → Int64) (v : Int64) : Prop := ∃ i, i < n ∧ f i = v
/-- each once -/
def pu_hi (n : Nat) (f : Nat → Int64) : Prop := ∀ i j, i < n → j < n → f i = f j → i = j
theorem pu_phs {n : Nat} {f g : Nat → Int64} (h : pu_pm n f g) (v : Int64) : pu_hs n g v ↔ pu_hs n f v := by
  have one : ∀ {f g : Nat → Int64}, pu_pm n f g → pu_hs n g v → pu_hs n f v := by
    intro f g h q
    obtain ⟨s1, t1, a1, b1⟩ := h
    obtain ⟨i, hi, e⟩ := q
    exact ⟨s1 i, (a1 i hi).1, by rw [← b1 i hi]; exact e⟩
  exact ⟨one h, one (pu_psm h)⟩
theorem pu_phi {n : Nat} {f g : Nat → Int64} (h : pu_pm n f g) (hf : pu_hi n f) : pu_hi n g := by
  obtain ⟨s1, t1, a1, b1⟩ := h
  intro i j hi hj e
  rw [b1 i hi, b1 j hj] at e
  have := hf _ _ (a1 i hi).1 (a1 j hj).1 e
  rw [← (a1 i hi).2.2.2, ← (a1 j hj).2.2.2, this]
theorem pu_hsup {n : Nat} {f : Nat → Int64} {x v : Int64} : pu_hs (n + 1) (vp_updL f n x) v ↔ pu_hs n f v ∨ v = x := by
  constructor
  · rintro ⟨i, hi, e⟩
    by_cases h : i = n
    · subst h
      rw [pu_us] at e
      exact Or.inr e.symm
    · rw [pu_un h] at e
      exact Or.inl ⟨i, by omega, e⟩
  · rintro (⟨i, hi, e⟩ | e)
    · exact ⟨i, by omega, by rw [pu_un (by omega)]; exact e⟩
    · exact ⟨n, by omega, by rw [pu_us]; exact e.symm⟩
theorem pu_hiup {n : Nat} {f : Nat → Int64} {x : Int64} (h : pu_hi n f) (hx : ¬ pu_hs n f x) : pu_hi (n + 1) (vp_updL f n x) := by
  intro i j hi hj e
  by_cases h1 : i = n
  · by_cases h2 : j = n
    · rw [h1, h2]
    · rw [h1, pu_us, pu_un h2] at e
      exact absurd ⟨j, by omega, e.symm⟩ hx
  · by_cases h2 : j = n
    · rw [h2, pu_us, pu_un h1] at e
      exact absurd ⟨i, by omega, e⟩ hx
    · rw [pu_un h1, pu_un h2] at e
      exact h i j (by omega) (by omega) e
/-! insertion -/
/-- Axis.insert's loop: the key goes down from place 'at' -/
def pu_ins (key : Int64) : Nat → (Nat → Int64) → (Nat → Int64)
  | 0, r => vp_updL r 0 key
  | k + 1, r => if key < r k then pu_ins key k (vp_updL r (k + 1) (r k)) else vp_updL r (k + 1) key
/-- the first n places rise -/
def pu_srt (n : Nat) (f : Nat → Int64) : Prop := ∀ i j, i < j → j < n → f i ≤ f j
theorem pu_insok (key : Int64) (n : Nat) : ∀ (k : Nat) (r : Nat → Int64), k ≤ n →
    (∀ i j, i < j → j < n + 1 → i ≠ k → j ≠ k → vp_updL r k key i ≤ vp_updL r k key j) → (∀ j, k < j → j < n + 1 → key ≤ r j) →
    pu_pm (n + 1) (vp_updL r k key) (pu_ins key k r) ∧ pu_srt (n + 1) (pu_ins key k r) := by
  intro k
  induction k with
  | zero =>
    intro r hk h1 h2
    refine ⟨pu_prf, fun i j hij hj => ?_⟩
    show vp_updL r 0 key i ≤ vp_updL r 0 key j
    by_cases hi : i = 0
    · subst hi
      rw [pu_us, pu_un (by omega)]
      exact h2 j hij hj
    · exact h1 i j hij hj hi (by omega)
  | succ k ih =>
    intro r hk h1 h2
    unfold pu_ins
    by_cases hlt : key < r k
    · rw [if_pos hlt]
      have e := pu_usw (r := r) (t0 := k + 1) (q := k) (key := key) (by omega)
      have h3 : ∀ j, k < j → j < n + 1 → key ≤ vp_updL r (k + 1) (r k) j := by
        intro j hj hn
        by_cases hj2 : j = k + 1
        · subst hj2
          rw [pu_us]
          exact pu_ltle hlt
        · rw [pu_un hj2]
          exact h2 j (by omega) hn
      obtain ⟨p1, p2⟩ := ih (vp_updL r (k + 1) (r k)) (by omega) (by
        intro i j hij hj hi hjk
        rw [e]
        by_cases a : i = k + 1
        · subst a
          rw [pu_swa, pu_swo (by omega) (by omega), pu_un (by omega)]
          have := h1 k j (by omega) hj (by omega) (by omega)
          rw [pu_un (by omega), pu_un (by omega)] at this
          rw [pu_un (by omega)]
          exact this
        · by_cases b : j = k + 1
          · subst b
            rw [pu_swa, pu_swo (by omega) (by omega), pu_un (by omega), pu_un (by omega)]
            have := h1 i k (by omega) (by omega) (by omega) (by omega)
            rw [pu_un (by omega), pu_un (by omega)] at this
            exact this
          · rw [pu_swo a hi, pu_swo b hjk]
            exact h1 i j hij hj a b) h3
      refine ⟨pu_ptr ?_ p1, p2⟩
      rw [e]
      exact pu_psw (by omega) (by omega)
    · rw [if_neg hlt]
      refine ⟨pu_prf, fun i j hij hj => ?_⟩
      have hle := pu_nlt hlt
      have lo : ∀ i, i < k + 1 → r i ≤ key := by
        intro i hi
        by_cases a : i = k
        · rw [a]; exact hle
        · have := h1 i k (by omega) (by omega) (by omega) (by omega)
          rw [pu_un (by omega), pu_un (by omega)] at this
          exact pu_tr this hle
      by_cases a : i = k + 1
      · subst a
        rw [pu_us, pu_un (by omega)]
        exact h2 j hij hj
      · by_cases b : j = k + 1
        · subst b
          rw [pu_us, pu_un (by omega)]
          exact lo i (by omega)
        · exact h1 i j hij hj a b
/-- a key goes into a rising row of n -/
theorem pu_insin {key : Int64} {n : Nat} {r : Nat → Int64} (h : pu_srt n r) : pu_pm (n + 1) (vp_updL r n key) (pu_ins key n r) ∧ pu_srt (n + 1) (pu_ins key n r) :=
  pu_insok key n n r (Nat.le_refl n) (fun i j hij hj hi hjk => by rw [pu_un hi, pu_un hjk]; exact h i j hij (by omega)) (fun j h1 h2 => by omega)
/-! a heap: place i's parent is (i - 1) / 2 -/
def pu_hp (n : Nat) (f : Nat → Int64) : Prop := ∀ i, 0 < i → i < n → f ((i - 1) / 2) ≤ f i
/-- the root is the least -/
theorem pu_root {n : Nat} {f : Nat → Int64} (h : pu_hp n f) : ∀ i, i < n → f 0 ≤ f i := by
  intro i
  induction i using Nat.strongRecOn with
  | _ i ih =>
    intro hi
    by_cases h0 : i = 0
    · subst h0; exact pu_rf
    · exact pu_tr (ih ((i - 1) / 2) (by omega) (by omega)) (h i (by omega) hi)
/-- Frontier.add's loop: the key goes up from place 'at' -/
def pu_up (key : Int64) : Nat → Nat → (Nat → Int64) → (Nat → Int64)
  | 0, t, f => vp_updL f t key
  | d + 1, t, f => if 0 < t ∧ key < f ((t - 1) / 2) then pu_up key d ((t - 1) / 2) (vp_updL f t (f ((t - 1) / 2))) else vp_updL f t key
theorem pu_upok (key : Int64) (n : Nat) : ∀ (d t : Nat) (f : Nat → Int64), t < d → t < n →
    (∀ i, 0 < i → i < n → i ≠ t → vp_updL f t key ((i - 1) / 2) ≤ vp_updL f t key i) → (∀ i, 0 < i → i < n → (i - 1) / 2 = t → 0 < t → f ((t - 1) / 2) ≤ f i) →
    pu_pm n (vp_updL f t key) (pu_up key d t f) ∧ pu_hp n (pu_up key d t f) := by
  intro d
  induction d with
  | zero => intro t f h; omega
  | succ d ih =>
    intro t f hd hn h1 h2
    unfold pu_up
    by_cases c : 0 < t ∧ key < f ((t - 1) / 2)
    · rw [if_pos c]
      obtain ⟨c1, c2⟩ := c
      have e := pu_usw (r := f) (t0 := t) (q := (t - 1) / 2) (key := key) (by omega)
      obtain ⟨p1, p2⟩ := ih ((t - 1) / 2) (vp_updL f t (f ((t - 1) / 2))) (by omega) (by omega) (by
        intro i i0 hi hip
        rw [e]
        by_cases a : i = t
        · subst a
          rw [pu_swa, pu_swb, pu_us, pu_un (by omega)]
          exact pu_ltle c2
        · by_cases b : (i - 1) / 2 = t
          · rw [b, pu_swa, pu_swo a hip, pu_un (by omega), pu_un a]
            exact h2 i i0 hi b c1
          · by_cases b2 : (i - 1) / 2 = (t - 1) / 2
            · rw [b2, pu_swb, pu_swo a hip, pu_us, pu_un a]
              have := h1 i i0 hi a
              rw [b2, pu_un (by omega), pu_un a] at this
              exact pu_tr (pu_ltle c2) this
            · rw [pu_swo b b2, pu_swo a hip]
              exact h1 i i0 hi a) (by
        intro i i0 hi hip q0
        have g : f (((t - 1) / 2 - 1) / 2) ≤ f ((t - 1) / 2) := by
          have := h1 ((t - 1) / 2) q0 (by omega) (by omega)
          rw [pu_un (by omega), pu_un (by omega)] at this
          exact this
        rw [pu_un (by omega)]
        by_cases a : i = t
        · subst a
          rw [pu_us]
          exact g
        · rw [pu_un a]
          have := h1 i i0 hi a
          rw [hip, pu_un (by omega), pu_un a] at this
          exact pu_tr g this)
      refine ⟨pu_ptr ?_ p1, p2⟩
      rw [e]
      exact pu_psw hn (by omega)
    · rw [if_neg c]
      refine ⟨pu_prf, fun i i0 hi => ?_⟩
      by_cases a : i = t
      · subst a
        rw [pu_us, pu_un (by omega)]
        exact pu_nlt (fun q => c ⟨i0, q⟩)
      · exact h1 i i0 hi a
/-- a key goes into a heap of n -/
theorem pu_upin {key : Int64} {n d : Nat} {f : Nat → Int64} (hd : n < d) (h : pu_hp n f) : pu_pm (n + 1) (vp_updL f n key) (pu_up key d n f) ∧ pu_hp (n + 1) (pu_up key d n f) :=
  pu_upok key (n + 1) d n f hd (by omega) (fun i i0 hi hin => by rw [pu_un (by omega), pu_un hin]; exact h i i0 (by omega)) (fun i i0 hi hip h0 => by omega)
/-- the lesser child of place t, of n -/
def pu_lc (n : Nat) (f : Nat → Int64) (l : Nat) : Nat := if l + 1 < n ∧ f (l + 1) < f l then l + 1 else l
/-- Frontier.sinkFromTop's loop -/
def pu_dn (key : Int64) (n : Nat) : Nat → Nat → (Nat → Int64) → (Nat → Int64)
  | 0, t, f => vp_updL f t key
  | d + 1, t, f => if 2 * t + 1 < n then (if key ≤ f (pu_lc n f (2 * t + 1)) then vp_updL f t key else pu_dn key n d (pu_lc n f (2 * t + 1)) (vp_updL f t (f (pu_lc n f (2 * t + 1))))) else vp_updL f t key
theorem pu_lc_is {n : Nat} {f : Nat → Int64} {l : Nat} (h : l < n) : (pu_lc n f l = l ∨ (pu_lc n f l = l + 1 ∧ l + 1 < n)) ∧ pu_lc n f l < n ∧ f (pu_lc n f l) ≤ f l ∧ (l + 1 < n → f (pu_lc n f l) ≤ f (l + 1)) := by
  unfold pu_lc
  by_cases c : l + 1 < n ∧ f (l + 1) < f l
  · rw [if_pos c]
    exact ⟨Or.inr ⟨rfl, c.1⟩, c.1, pu_ltle c.2, fun _ => pu_rf⟩
  · rw [if_neg c]
    exact ⟨Or.inl rfl, h, pu_rf, fun q => pu_nlt (fun z => c ⟨q, z⟩)⟩
theorem pu_dnok (key : Int64) (n : Nat) : ∀ (d t : Nat) (f : Nat → Int64), n ≤ t + d → t < n →
    (∀ i, 0 < i → i < n → (i - 1) / 2 ≠ t → vp_updL f t key ((i - 1) / 2) ≤ vp_updL f t key i) → (∀ i, 0 < i → i < n → (i - 1) / 2 = t → 0 < t → f ((t - 1) / 2) ≤ f i) →
    pu_pm n (vp_updL f t key) (pu_dn key n d t f) ∧ pu_hp n (pu_dn key n d t f) := by
  intro d
  induction d with
  | zero => intro t f h; omega
  | succ d ih =>
    intro t f hd hn h1 h2
    unfold pu_dn
    by_cases c : 2 * t + 1 < n
    · rw [if_pos c]
      obtain ⟨w1, w2, w3, w4⟩ := pu_lc_is (f := f) c
      generalize pu_lc n f (2 * t + 1) = b at w1 w2 w3 w4 ⊢
      have bt : (b - 1) / 2 = t := by rcases w1 with h | ⟨h, -⟩ <;> omega
      have kid : ∀ i, 0 < i → i < n → (i - 1) / 2 = t → f b ≤ f i := by
        intro i i0 hi hp
        have : i = 2 * t + 1 ∨ i = 2 * t + 1 + 1 := by omega
        rcases this with h | h
        · rw [h]; exact w3
        · rw [h]; exact w4 (by omega)
      by_cases c2 : key ≤ f b
      · rw [if_pos c2]
        refine ⟨pu_prf, fun i i0 hi => ?_⟩
        by_cases a : (i - 1) / 2 = t
        · rw [a, pu_us, pu_un (by omega)]
          exact pu_tr c2 (kid i i0 hi a)
        · exact h1 i i0 hi a
      · rw [if_neg c2]
        have e := pu_usw (r := f) (t0 := t) (q := b) (key := key) (by omega)
        obtain ⟨p1, p2⟩ := ih b (vp_updL f t (f b)) (by omega) w2 (by
          intro i i0 hi hip
          rw [e]
          by_cases a : (i - 1) / 2 = t
          · rw [a, pu_swa, pu_un (by omega)]
            by_cases a2 : i = b
            · subst a2
              rw [pu_swb, pu_us]
              exact pu_ltle (pu_nle c2)
            · rw [pu_swo (by omega) a2, pu_un (by omega)]
              exact kid i i0 hi a
          · by_cases a2 : i = t
            · subst a2
              rw [pu_swa, pu_swo (by omega) hip, pu_un (by omega), pu_un (by omega)]
              exact h2 b (by omega) w2 bt i0
            · rw [pu_swo a hip, pu_swo a2 (by intro q; subst q; exact a bt)]
              exact h1 i i0 hi a) (by
          intro i i0 hi hip b0
          rw [bt, pu_us, pu_un (by omega)]
          have := h1 i i0 hi (by omega)
          rw [hip, pu_un (by omega), pu_un (by omega)] at this
          exact this)
        refine ⟨pu_ptr ?_ p1, p2⟩
        rw [e]
        exact pu_psw hn w2
    · rw [if_neg c]
      refine ⟨pu_prf, fun i i0 hi => ?_⟩
      exact h1 i i0 hi (by omega)
/-- the last of n + 1 goes to the root of a heap of n, and sinks -/
theorem pu_dnin {n d : Nat} {f : Nat → Int64} (h : pu_hp (n + 1) f) (hd : n ≤ d) (h0 : 0 < n) : pu_pm n (vp_updL f 0 (f n)) (pu_dn (f n) n d 0 f) ∧ pu_hp n (pu_dn (f n) n d 0 f) :=
  pu_dnok (f n) n d 0 f (by omega) h0 (fun i i0 hi hip => by rw [pu_un (by omega), pu_un (by omega)]; exact h i i0 (by omega)) (fun i i0 hi hip h0 => by omega)
/-- what is left behind the root -/
theorem pu_rest {n : Nat} {f : Nat → Int64} (h : pu_hi (n + 1) f) : pu_hi n (vp_updL f 0 (f n)) ∧ ∀ v, pu_hs n (vp_updL f 0 (f n)) v ↔ pu_hs (n + 1) f v ∧ v ≠ f 0 := by
  refine ⟨fun i j hi hj e => ?_, fun v => ⟨?_, ?_⟩⟩
  · by_cases a : i = 0
    · by_cases b : j = 0
      · omega
      · rw [a, pu_us, pu_un b] at e
        have := h n j (by omega) (by omega) e
        omega
    · by_cases b : j = 0
      · rw [b, pu_us, pu_un a] at e
        have := h i n (by omega) (by omega) e
        omega
      · rw [pu_un a, pu_un b] at e
        exact h i j (by omega) (by omega) e
  · rintro ⟨i, hi, e⟩
    by_cases a : i = 0
    · rw [a, pu_us] at e
      exact ⟨⟨n, by omega, e⟩, fun q => by rw [q] at e; have := h n 0 (by omega) (by omega) e; omega⟩
    · rw [pu_un a] at e
      exact ⟨⟨i, by omega, e⟩, fun q => by rw [q] at e; have := h i 0 (by omega) (by omega) e; omega⟩
  · rintro ⟨⟨i, hi, e⟩, hv⟩
    have i0 : i ≠ 0 := fun q => hv (by rw [← e, q])
    by_cases a : i = n
    · exact ⟨0, by omega, by rw [pu_us, ← a]; exact e⟩
    · exact ⟨i, by omega, by rw [pu_un i0]; exact e⟩
/-- an insertion, whole -/
theorem pu_insall {key : Int64} {n : Nat} {r : Nat → Int64} (h : pu_srt n r) (h1 : pu_hi n r) (hx : ¬ pu_hs n r key) :
    pu_srt (n + 1) (pu_ins key n r) ∧ pu_hi (n + 1) (pu_ins key n r) ∧ ∀ v, pu_hs (n + 1) (pu_ins key n r) v ↔ pu_hs n r v ∨ v = key := by
  obtain ⟨p1, p2⟩ := pu_insin (key := key) h
  exact ⟨p2, pu_phi p1 (pu_hiup h1 hx), fun v => (pu_phs p1 v).trans pu_hsup⟩
/-- a key into the heap, whole -/
theorem pu_upall {key : Int64} {n d : Nat} {f : Nat → Int64} (hd : n < d) (h : pu_hp n f) (h1 : pu_hi n f) (hx : ¬ pu_hs n f key) :
    pu_hp (n + 1) (pu_up key d n f) ∧ pu_hi (n + 1) (pu_up key d n f) ∧ ∀ v, pu_hs (n + 1) (pu_up key d n f) v ↔ pu_hs n f v ∨ v = key := by
  obtain ⟨p1, p2⟩ := pu_upin (key := key) hd h
  exact ⟨p2, pu_phi p1 (pu_hiup h1 hx), fun v => (pu_phs p1 v).trans pu_hsup⟩
/-- the least out of the heap, whole -/
theorem pu_dnall {n d : Nat} {f : Nat → Int64} (hd : n ≤ d) (h : pu_hp (n + 1) f) (h1 : pu_hi (n + 1) f) :
    pu_hp n (pu_dn (f n) n d 0 f) ∧ pu_hi n (pu_dn (f n) n d 0 f) ∧ ∀ v, pu_hs n (pu_dn (f n) n d 0 f) v ↔ pu_hs (n + 1) f v ∧ v ≠ f 0 := by
  obtain ⟨r1, r2⟩ := pu_rest h1
  by_cases h0 : 0 < n
  · obtain ⟨p1, p2⟩ := pu_dnin (d := d) h hd h0
    exact ⟨p2, pu_phi p1 r1, fun v => (pu_phs p1 v).trans (r2 v)⟩
  · have e : n = 0 := by omega
    subst e
    refine ⟨fun i i0 hi => by omega, fun i j hi hj => by omega, fun v => ⟨fun ⟨i, hi, _⟩ => by omega, fun ⟨⟨i, hi, e⟩, hv⟩ => ?_⟩⟩
    have : i = 0 := by omega
    rw [this] at e
    exact absurd e.symm hv
/-! the axis's order: numbers 0, -1, 1, -2, 2 .. go in one by one -/
def pu_ord (K : Int → Int64) (r : Nat → Int64) : Nat → (Nat → Int64)
  | 0 => pu_ins (K 0) 0 r
  | a + 1 => pu_ins (K ((a : Int) + 1)) (2 * a + 2) (pu_ins (K (-((a : Int) + 1))) (2 * a + 1) (pu_ord K r a))
theorem pu_ordok {K : Int → Int64} {M : Int} (inj : ∀ n m : Int, -M ≤ n → n ≤ M → -M ≤ m → m ≤ M → K n = K m → n = m) (hM : 0 ≤ M) (r : Nat → Int64) : ∀ a : Nat, (a : Int) ≤ M →
    pu_srt (2 * a + 1) (pu_ord K r a) ∧ pu_hi (2 * a + 1) (pu_ord K r a) ∧ ∀ v, pu_hs (2 * a + 1) (pu_ord K r a) v ↔ ∃ n : Int, -(a : Int) ≤ n ∧ n ≤ a ∧ v = K n := by
  intro a
  induction a with
  | zero =>
    intro ha
    obtain ⟨q1, q2, q3⟩ := pu_insall (key := K 0) (n := 0) (r := r) (fun i j _ h => by omega) (fun i j h => by omega) (fun ⟨i, h, _⟩ => by omega)
    refine ⟨q1, q2, fun v => (q3 v).trans ⟨?_, ?_⟩⟩
    · rintro (⟨i, h, _⟩ | h)
      · omega
      · exact ⟨0, by omega, by omega, h⟩
    · rintro ⟨n, h1, h2, h3⟩
      have : n = 0 := by omega
      subst this
      exact Or.inr h3
  | succ a ih =>
    intro ha
    have ha1 : (a : Int) + 1 ≤ M := by omega
    obtain ⟨s1, s2, s3⟩ := ih (by omega)
    have f1 : ¬ pu_hs (2 * a + 1) (pu_ord K r a) (K (-((a : Int) + 1))) := by
      intro q
      obtain ⟨n, h1, h2, h3⟩ := (s3 _).mp q
      have := inj _ _ (by omega) (by omega) (by omega) (by omega) h3
      omega
    obtain ⟨t1, t2, t3⟩ := pu_insall s1 s2 f1
    have f2 : ¬ pu_hs (2 * a + 1 + 1) (pu_ins (K (-((a : Int) + 1))) (2 * a + 1) (pu_ord K r a)) (K ((a : Int) + 1)) := by
      intro q
      rcases (t3 _).mp q with q | q
      · obtain ⟨n, h1, h2, h3⟩ := (s3 _).mp q
        have := inj _ _ (by omega) (by omega) (by omega) (by omega) h3
        omega
      · have := inj _ _ (by omega) (by omega) (by omega) (by omega) q
        omega
    obtain ⟨u1, u2, u3⟩ := pu_insall t1 t2 f2
    refine ⟨u1, u2, fun v => (u3 v).trans ⟨?_, ?_⟩⟩
    · rintro (h | h)
      · rcases (t3 v).mp h with h | h
        · obtain ⟨n, h1, h2, h3⟩ := (s3 _).mp h
          exact ⟨n, by omega, by omega, h3⟩
        · exact ⟨-((a : Int) + 1), by omega, by omega, h⟩
      · exact ⟨(a : Int) + 1, by omega, by omega, h⟩
    · rintro ⟨n, h1, h2, h3⟩
      by_cases c1 : n = (a : Int) + 1
      · subst c1; exact Or.inr h3
      · refine Or.inl ((t3 v).mpr ?_)
        by_cases c2 : n = -((a : Int) + 1)
        · subst c2; exact Or.inr h3
        · exact Or.inl ((s3 v).mpr ⟨n, by omega, by omega, h3⟩)
