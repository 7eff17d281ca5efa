/-! ===== numbers ===== -/
theorem i_lt (a b : Int32) : a < b ↔ a.toInt < b.toInt := Int32.lt_iff_toInt_lt
theorem i_le (a b : Int32) : a ≤ b ↔ a.toInt ≤ b.toInt := Int32.le_iff_toInt_le
theorem i_eq (a b : Int32) : a = b ↔ a.toInt = b.toInt := ⟨fun h => by rw [h], fun h => Int32.toInt_inj.mp h⟩
theorem i_rng (x : Int32) : -2147483648 ≤ x.toInt ∧ x.toInt < 2147483648 := by
  have h1 := Int32.le_toInt x
  have h2 := Int32.toInt_lt x
  omega
theorem i_bmod {z : Int} (h1 : -2147483648 ≤ z) (h2 : z < 2147483648) : z.bmod (2 ^ 32) = z := by
  rw [Int.bmod_eq_of_le] <;> omega
theorem i_add {x y : Int32} (h1 : -2147483648 ≤ x.toInt + y.toInt) (h2 : x.toInt + y.toInt < 2147483648) : (x + y).toInt = x.toInt + y.toInt := by
  rw [Int32.toInt_add, i_bmod h1 h2]
theorem i_sub {x y : Int32} (h1 : -2147483648 ≤ x.toInt - y.toInt) (h2 : x.toInt - y.toInt < 2147483648) : (x - y).toInt = x.toInt - y.toInt := by
  rw [Int32.toInt_sub, i_bmod h1 h2]
theorem i_mul {x y : Int32} (h1 : -2147483648 ≤ x.toInt * y.toInt) (h2 : x.toInt * y.toInt < 2147483648) : (x * y).toInt = x.toInt * y.toInt := by
  rw [Int32.toInt_mul, i_bmod h1 h2]
theorem i_neg {x : Int32} (h : x.toInt ≠ -2147483648) : (-x).toInt = -x.toInt := by
  have := i_rng x
  rw [Int32.toInt_neg, i_bmod] <;> omega
theorem i_ofInt {z : Int} (h1 : -2147483648 ≤ z) (h2 : z < 2147483648) : (Int32.ofInt z).toInt = z := by
  rw [Int32.toInt_ofInt]
  exact i_bmod h1 h2
theorem i_as (x : Int32) : Int32.ofInt x.toInt = x := Int32.ofInt_toInt x
/-- an index between two tests -/
theorem in_cmp {a b : Int32} {n z : Nat} (h0 : ¬ a < 0) (h1 : ¬ b ≤ a) (hb : b = nI z) (hz : z ≤ n) (hn : n < 2 ^ 31) : vp_in a n := by
  subst hb
  rw [vp_in_iff]
  rw [i_lt] at h0
  rw [i_le, nI_toInt (by omega)] at h1
  have : (0 : Int32).toInt = 0 := rfl
  omega
theorem clamp_toInt {a : Int32} (h0 : ¬ a < 0) : (a.toNatClampNeg : Int) = a.toInt := by
  rw [i_lt] at h0
  have : (0 : Int32).toInt = 0 := rfl
  have h1 : a.toNatClampNeg = a.toInt.toNat := rfl
  omega
theorem clamp_lt {a : Int32} {n : Nat} (h : vp_in a n) : a.toNatClampNeg < n := Nat.not_le.mp fun q => h (Or.inr q)
theorem upd_s {f : Nat → Int32} {k : Nat} {x : Int32} : upd f k x k = x := if_pos rfl
theorem upd_n {f : Nat → Int32} {k j : Nat} {x : Int32} (h : j ≠ k) : upd f k x j = f j := if_neg h
theorem upM_s {mu : Mu} {k : Nat} {f : Nat → Int32} : upM mu k f k = f := if_pos rfl
theorem upM_n {mu : Mu} {k j : Nat} {f : Nat → Int32} (h : j ≠ k) : upM mu k f j = mu j := if_neg h
theorem upF_s {mu : Mu} {k i : Nat} {v : Int32} : upF mu k i v k i = v := by rw [upF, upM_s, upd_s]
theorem upF_i {mu : Mu} {k i j : Nat} {v : Int32} (h : j ≠ i) : upF mu k i v k j = mu k j := by rw [upF, upM_s, upd_n h]
theorem upF_k {mu : Mu} {k q i : Nat} {v : Int32} (h : q ≠ k) : upF mu k i v q = mu q := by rw [upF, upM_n h]
