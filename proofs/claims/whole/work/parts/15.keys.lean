/-! PURE: numbers of the machine as whole numbers; an axis's keys. -/
theorem bm32 {x : Int} (h1 : -2147483648 ≤ x) (h2 : x < 2147483648) : x.bmod 4294967296 = x := by
  rw [Int.bmod_def]
  split <;> omega
theorem bm64 {x : Int} (h1 : -9223372036854775808 ≤ x) (h2 : x < 9223372036854775808) : x.bmod 18446744073709551616 = x := by
  rw [Int.bmod_def]
  split <;> omega
theorem i_add {a b : Int32} (h1 : -2147483648 ≤ a.toInt + b.toInt) (h2 : a.toInt + b.toInt < 2147483648) : (a + b).toInt = a.toInt + b.toInt := by rw [Int32.toInt_add]; exact bm32 h1 h2
theorem i_sub {a b : Int32} (h1 : -2147483648 ≤ a.toInt - b.toInt) (h2 : a.toInt - b.toInt < 2147483648) : (a - b).toInt = a.toInt - b.toInt := by rw [Int32.toInt_sub]; exact bm32 h1 h2
theorem i_mul {a b : Int32} (h1 : -2147483648 ≤ a.toInt * b.toInt) (h2 : a.toInt * b.toInt < 2147483648) : (a * b).toInt = a.toInt * b.toInt := by rw [Int32.toInt_mul]; exact bm32 h1 h2
theorem i_of {z : Int} (h1 : -2147483648 ≤ z) (h2 : z < 2147483648) : (Int32.ofInt z).toInt = z := by rw [Int32.toInt_ofInt]; exact bm32 h1 h2
theorem l_add {a b : Int64} (h1 : -9223372036854775808 ≤ a.toInt + b.toInt) (h2 : a.toInt + b.toInt < 9223372036854775808) : (a + b).toInt = a.toInt + b.toInt := by rw [Int64.toInt_add]; exact bm64 h1 h2
theorem l_sub {a b : Int64} (h1 : -9223372036854775808 ≤ a.toInt - b.toInt) (h2 : a.toInt - b.toInt < 9223372036854775808) : (a - b).toInt = a.toInt - b.toInt := by rw [Int64.toInt_sub]; exact bm64 h1 h2
theorem l_mul {a b : Int64} (h1 : -9223372036854775808 ≤ a.toInt * b.toInt) (h2 : a.toInt * b.toInt < 9223372036854775808) : (a * b).toInt = a.toInt * b.toInt := by rw [Int64.toInt_mul]; exact bm64 h1 h2
theorem i_l (x : Int32) : x.toInt64.toInt = x.toInt := Int32.toInt_toInt64 x
theorem i_inj {a b : Int32} (h : a.toInt = b.toInt) : a = b := Int32.toInt_inj.mp h
theorem l_inj {a b : Int64} (h : a.toInt = b.toInt) : a = b := Int64.toInt_inj.mp h
/-- sizes, source and listener of an axis in their bounds -/
def axok (w s t : Int32) : Prop := 1 ≤ w.toInt ∧ w.toInt ≤ 1000 ∧ 0 ≤ s.toInt ∧ s.toInt ≤ w.toInt ∧ 0 ≤ t.toInt ∧ t.toInt ≤ w.toInt
def dif (w s t z : Int) : Int := z * w + (if z % 2 = 0 then s else w - s) - t
def sqn (w s t : Int32) (z : Int) : Nat := (dif w.toInt s.toInt t.toInt z).natAbs * (dif w.toInt s.toInt t.toInt z).natAbs
theorem zw_bd {w z : Int} (h0 : 1 ≤ w) (h1 : w ≤ 1000) (z1 : -40 ≤ z) (z2 : z ≤ 40) : -40000 ≤ z * w ∧ z * w ≤ 40000 := by
  have a1 := Int.mul_le_mul_of_nonneg_right z2 (show 0 ≤ w by omega)
  have a2 := Int.mul_le_mul_of_nonneg_right z1 (show 0 ≤ w by omega)
  omega
theorem dif_bd {w s t : Int32} {z : Int} (h : axok w s t) (z1 : -40 ≤ z) (z2 : z ≤ 40) : (dif w.toInt s.toInt t.toInt z).natAbs ≤ 41000 := by
  obtain ⟨a1, a2, a3, a4, a5, a6⟩ := h
  obtain ⟨b1, b2⟩ := zw_bd a1 a2 z1 z2
  unfold dif
  generalize z * w.toInt = q at b1 b2 ⊢
  split <;> omega
theorem sqn_bd {w s t : Int32} {z : Int} (h : axok w s t) (z1 : -40 ≤ z) (z2 : z ≤ 40) : sqn w s t z < 2147483648 := by
  have b := dif_bd h z1 z2
  have := Nat.mul_le_mul b b
  unfold sqn
  omega
theorem sqn_int (w s t : Int32) (z : Int) : ((sqn w s t z : Nat) : Int) = dif w.toInt s.toInt t.toInt z * dif w.toInt s.toInt t.toInt z := Int.natAbs_mul_self
/-- an Int64 whose number is a square of an axis -/
theorem sq_of {w s t : Int32} {z : Int} {d : Int64} (h : axok w s t) (z1 : -40 ≤ z) (z2 : z ≤ 40) (hd : d.toInt = dif w.toInt s.toInt t.toInt z) : d * d = lN (sqn w s t z) := by
  have b := sqn_bd h z1 z2
  have e := sqn_int w s t z
  apply l_inj
  rw [pk_lT (by omega), l_mul (by rw [hd, ← e]; omega) (by rw [hd, ← e]; omega), hd, e]
theorem even1 (n : Int32) : (n &&& 1) = 0 ↔ n.toInt % 2 = 0 := by
  have e := Jvm.Kit.i32_mask n 1 (k := 1) (by decide) (by decide)
  constructor
  · intro h
    rw [h] at e
    have h0 : (0 : Int32).toInt = 0 := rfl
    omega
  · intro h
    apply i_inj
    rw [e]
    have h0 : (0 : Int32).toInt = 0 := rfl
    omega
theorem img_of {w s t : Int32} {z : Int} (h : axok w s t) (z1 : -40 ≤ z) (z2 : z ≤ 40) : (j_A_imageAt w s (Int32.ofInt z)).toInt = dif w.toInt s.toInt t.toInt z + t.toInt := by
  obtain ⟨a1, a2, a3, a4, a5, a6⟩ := h
  obtain ⟨b1, b2⟩ := zw_bd a1 a2 z1 z2
  have ez : (Int32.ofInt z).toInt = z := i_of (by omega) (by omega)
  have em : (Int32.ofInt z * w).toInt = z * w.toInt := by rw [i_mul (by rw [ez]; omega) (by rw [ez]; omega), ez]
  unfold j_A_imageAt dif
  by_cases c : (Int32.ofInt z &&& 1) = 0
  · have c2 := (even1 _).mp c
    rw [ez] at c2
    rw [if_pos c, if_pos c2, i_add (by omega) (by omega), em]
    omega
  · have c2 : ¬ z % 2 = 0 := fun q => c ((even1 _).mpr (by rw [ez]; exact q))
    have es : (w - s).toInt = w.toInt - s.toInt := i_sub (by omega) (by omega)
    rw [if_neg c, if_neg c2, i_add (by omega) (by omega), em, es]
    omega
theorem sq_eq {w s t : Int32} {z : Int} (h : axok w s t) (z1 : -40 ≤ z) (z2 : z ≤ 40) : j_A_squareTo w s t (Int32.ofInt z) = lN (sqn w s t z) := by
  have e := img_of h z1 z2
  have b := dif_bd h z1 z2
  obtain ⟨a1, a2, a3, a4, a5, a6⟩ := id h
  refine sq_of h z1 z2 ?_
  rw [i_l, i_sub (by omega) (by omega), e]
  omega
/-! keys -/
/-- an image number by its raised number -/
def nz (a : Nat) : Int32 := Int32.ofInt ((a : Int) - 40)
theorem nz_int {a : Nat} (h : a < 1000) : (nz a).toInt = (a : Int) - 40 := i_of (by omega) (by omega)
theorem nz_of {z : Int} (h1 : -40 ≤ z) (h2 : z ≤ 40) : Int32.ofInt z = nz (z + 40).toNat := by
  unfold nz
  rw [show (((z + 40).toNat : Nat) : Int) - 40 = z by omega]
theorem nz_40 {a : Nat} (h : a < 1000) : nz a + 40 = nI a := by
  apply i_inj
  have e := nz_int h
  have h0 : (40 : Int32).toInt = 40 := rfl
  rw [i_add (by omega) (by omega), e, nI_toInt (by omega), h0]
  omega
theorem wnb {u a : Nat} (hu : u < 2 ^ 50) (ha : a < 81) : j_R_withNumberBelow (lN u) (nz a) = lN (u * 128 + a) := by
  unfold j_R_withNumberBelow
  rw [g_shl (a := u) (k := 7) (p := 128) (by decide) (by decide) (by decide) (by omega), nz_40 (by omega), nI_l (by omega)]
  exact g_or (k := 7) (by decide) (by omega) (by omega)
theorem lni {b : Nat} (hb : b < 2 ^ 62) : j_R_lowestNumberIn (lN b) = nz (b % 128) := by
  unfold j_R_lowestNumberIn
  rw [show (127 : Int64) = lN (128 - 1) from rfl, g_mask (s := 7) (by decide) (by decide) (by omega), lN_i]
  apply i_inj
  have h0 : (40 : Int32).toInt = 40 := rfl
  have hm := Nat.mod_lt b (show 128 > 0 by decide)
  have e := nI_toInt (n := b % 128) (by omega)
  rw [i_sub (by omega) (by omega), e, nz_int (by omega), h0]
theorem key3 {d a b c : Nat} (hd : d < 6442450944) (ha : a < 81) (hb : b < 81) (hc : c < 81) : j_R_keyOf (lN d) (nz a) (nz b) (nz c) = lN (pu_k3 d a b c) := by
  unfold j_R_keyOf pu_k3
  rw [wnb (by omega) ha, wnb (by omega) hb, wnb (by omega) hc]
theorem k3_lt {d a b c : Nat} (hd : d < 6442450944) (ha : a < 81) (hb : b < 81) (hc : c < 81) : pu_k3 d a b c < 2 ^ 54 := by
  unfold pu_k3
  omega
theorem k3_first {d a b c : Nat} (hd : d < 6442450944) (ha : a < 81) (hb : b < 81) (hc : c < 81) : j_R_firstNumberIn (lN (pu_k3 d a b c)) = nz a := by
  have h := k3_lt hd ha hb hc
  unfold j_R_firstNumberIn
  rw [pf_shr (d := 14) (by decide) (by omega), lni (by omega)]
  congr 1
  unfold pu_k3
  omega
theorem k3_second {d a b c : Nat} (hd : d < 6442450944) (ha : a < 81) (hb : b < 81) (hc : c < 81) : j_R_secondNumberIn (lN (pu_k3 d a b c)) = nz b := by
  have h := k3_lt hd ha hb hc
  unfold j_R_secondNumberIn
  rw [pf_shr (d := 7) (by decide) (by omega), lni (by omega)]
  congr 1
  unfold pu_k3
  omega
theorem k3_third {d a b c : Nat} (hd : d < 6442450944) (ha : a < 81) (hb : b < 81) (hc : c < 81) : j_R_thirdNumberIn (lN (pu_k3 d a b c)) = nz c := by
  have h := k3_lt hd ha hb hc
  unfold j_R_thirdNumberIn
  rw [lni (by omega)]
  congr 1
  unfold pu_k3
  omega
theorem k3_dist {d a b c : Nat} (hd : d < 6442450944) (ha : a < 81) (hb : b < 81) (hc : c < 81) : j_R_distanceIn (lN (pu_k3 d a b c)) = lN d := by
  have h := k3_lt hd ha hb hc
  unfold j_R_distanceIn
  rw [pf_shr (d := 21) (by decide) (by omega)]
  congr 1
  unfold pu_k3
  omega
/-! an axis in its order -/
theorem axK_eq {w s t : Int32} {z : Int} (h : axok w s t) (z1 : -40 ≤ z) (z2 : z ≤ 40) : j_axK w s t z = lN (sqn w s t z * 128 + (z + 40).toNat) := by
  have b := sqn_bd h z1 z2
  unfold j_axK
  rw [sq_eq h z1 z2, nz_of z1 z2, wnb (by omega) (by omega)]
def ax_b (f : Nat → Int64) (i : Nat) : Nat := (f i).toInt.toNat
def ax_s (f : Nat → Int64) (i : Nat) : Nat := ax_b f i / 128
def ax_n (f : Nat → Int64) (i : Nat) : Nat := ax_b f i % 128
/-- a row of ranked numbers: what its squares and its numbers are -/
def axrow (w s t : Int32) (f : Nat → Int64) : Prop := (∀ i, i < 81 → f i = lN (ax_b f i) ∧ ax_n f i < 81 ∧ ax_s f i = sqn w s t ((ax_n f i : Int) - 40)) ∧ pu_ax (ax_s f) (ax_n f) ∧ ∀ a, a < 81 → ∃ i, i < 81 ∧ ax_n f i = a
theorem ord_row {w s t : Int32} (h : axok w s t) (r : Nat → Int64) : axrow w s t (pu_ord (j_axK w s t) r 40) := by
  have inj : ∀ n m : Int, -40 ≤ n → n ≤ 40 → -40 ≤ m → m ≤ 40 → j_axK w s t n = j_axK w s t m → n = m := by
    intro n m n1 n2 m1 m2 e
    have b1 := sqn_bd h n1 n2
    have b2 := sqn_bd h m1 m2
    rw [axK_eq h n1 n2, axK_eq h m1 m2, pk_lEQ (by omega) (by omega)] at e
    omega
  obtain ⟨q1, q2, q3⟩ := pu_ordok (M := 40) inj (by decide) r 40 (by decide)
  generalize pu_ord (j_axK w s t) r 40 = f at q1 q2 q3
  have at_ : ∀ i, i < 81 → ∃ z : Int, -40 ≤ z ∧ z ≤ 40 ∧ f i = lN (sqn w s t z * 128 + (z + 40).toNat) ∧ ax_b f i = sqn w s t z * 128 + (z + 40).toNat := by
    intro i hi
    obtain ⟨z, z1, z2, e⟩ := (q3 (f i)).mp ⟨i, hi, rfl⟩
    have z1 : -40 ≤ z := z1
    have z2 : z ≤ 40 := z2
    have b := sqn_bd h z1 z2
    rw [axK_eq h z1 z2] at e
    refine ⟨z, z1, z2, e, ?_⟩
    unfold ax_b
    rw [e, pk_lT (by omega)]
    omega
  refine ⟨fun i hi => ?_, ⟨fun i hi => ?_, fun i j hi hj e => ?_, fun i hi => ?_⟩, fun a ha => ?_⟩
  · obtain ⟨z, z1, z2, e1, e2⟩ := at_ i hi
    have en : ax_n f i = (z + 40).toNat := by unfold ax_n; omega
    refine ⟨by rw [e2]; exact e1, by omega, ?_⟩
    rw [en, show (((z + 40).toNat : Nat) : Int) - 40 = z by omega]
    unfold ax_s
    omega
  · obtain ⟨z, z1, z2, e1, e2⟩ := at_ i hi
    have b := sqn_bd h z1 z2
    unfold ax_s ax_n
    omega
  · obtain ⟨z, z1, z2, e1, e2⟩ := at_ i hi
    obtain ⟨y, y1, y2, e3, e4⟩ := at_ j hj
    unfold ax_n at e
    have : z = y := by omega
    subst this
    exact q2 i j hi hj (by rw [e1, e3])
  · obtain ⟨z, z1, z2, e1, e2⟩ := at_ i (by omega)
    obtain ⟨y, y1, y2, e3, e4⟩ := at_ (i + 1) hi
    have b1 := sqn_bd h z1 z2
    have b2 := sqn_bd h y1 y2
    have le := q1 i (i + 1) (by omega) hi
    have ne : f i ≠ f (i + 1) := fun q => by have := q2 i (i + 1) (by omega) hi q; omega
    rw [e1, e3, pk_lLE (by omega) (by omega)] at le
    have ne2 : ax_b f i ≠ ax_b f (i + 1) := fun q => ne (by rw [e1, e3, ← e2, ← e4, q])
    unfold ax_s ax_n
    omega
  · obtain ⟨i, hi, e⟩ := (q3 (j_axK w s t ((a : Int) - 40))).mpr ⟨(a : Int) - 40, by omega, by omega, rfl⟩
    refine ⟨i, hi, ?_⟩
    have b := sqn_bd h (z := (a : Int) - 40) (by omega) (by omega)
    rw [axK_eq h (by omega) (by omega)] at e
    unfold ax_n ax_b
    rw [e, pk_lT (by omega)]
    omega
