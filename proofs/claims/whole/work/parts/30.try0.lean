/-! ===== a try, as numbers: E 0 cord, 1 weight, 2 soft, 3 whether cups are met, 4 the late cup or -1, 5 late from; C cups, nc how many; U, V the hand's steps.
 s 0 x, 1 y, 2 pace x, 3 pace y, 4 turn, 5 spin, 6 hand x, 7 hand y, 8 taut, 9 caught or -1, 10 rims, 11 tauts, 12 steps, 13 u, 14 v ===== -/
def ab (x : Int32) : Int32 := if 0 ≤ x then x else 0 - x
def IsRt (v r : Int32) : Prop := 0 ≤ r.toInt ∧ r.toInt * r.toInt ≤ v.toInt ∧ v.toInt < (r.toInt + 1) * (r.toInt + 1)
noncomputable def rt (v : Int32) : Int32 := Classical.epsilon (fun r => IsRt v r)
theorem IsRt.one {v r q : Int32} (h : IsRt v r) (h2 : IsRt v q) : r = q := by
  obtain ⟨a1, a2, a3⟩ := h
  obtain ⟨b1, b2, b3⟩ := h2
  rw [i_eq]
  rcases Int.lt_trichotomy r.toInt q.toInt with e | e | e
  · have : (r.toInt + 1) * (r.toInt + 1) ≤ q.toInt * q.toInt := Int.mul_le_mul (by omega) (by omega) (by omega) (by omega)
    omega
  · exact e
  · have : (q.toInt + 1) * (q.toInt + 1) ≤ r.toInt * r.toInt := Int.mul_le_mul (by omega) (by omega) (by omega) (by omega)
    omega
theorem rt_is {v r : Int32} (h : IsRt v r) : rt v = r := (Classical.epsilon_spec (p := fun r => IsRt v r) ⟨r, h⟩).one h
def FsP (P : Nat → Prop) (n : Nat) (r : Int32) : Prop := (∃ i, i < n ∧ r = nI i ∧ P i ∧ ∀ j, j < i → ¬ P j) ∨ (r = -1 ∧ ∀ i, i < n → ¬ P i)
noncomputable def fstc (P : Nat → Prop) (n : Nat) : Int32 := Classical.epsilon (FsP P n)
theorem FsP.one {P : Nat → Prop} {n : Nat} {r q : Int32} (h : FsP P n r) (h2 : FsP P n q) : r = q := by
  rcases h with ⟨i, hi, rfl, hp, hm⟩ | ⟨rfl, h⟩ <;> rcases h2 with ⟨j, hj, rfl, hq, hn⟩ | ⟨rfl, h2⟩
  · rcases Nat.lt_trichotomy i j with e | e | e
    · exact absurd hp (hn i e)
    · rw [e]
    · exact absurd hq (hm j e)
  · exact absurd hp (h2 i hi)
  · exact absurd hq (h j hj)
  · rfl
theorem fstc_is {P : Nat → Prop} {n : Nat} {r : Int32} (h : FsP P n r) : fstc P n = r := (Classical.epsilon_spec (p := FsP P n) ⟨r, h⟩).one h
def cmp3 (a b : Int32) : Int32 := if a < b then -1 else if a = b then 0 else 1
abbrev Vc : Type := Nat → Int32
def sSide (E : Vc) (C : Nat → Vc) (s : Vc) : Int32 := if E 4 = -1 ∨ s 12 < E 5 ∨ ¬ s 8 = 0 then 0 else cmp3 (s 0 - s 6) (C (E 4).toNatClampNeg 0)
def sU (E : Vc) (C : Nat → Vc) (U : Vc) (s : Vc) : Int32 := sSide E C s + U (s 12).toNatClampNeg
def sHx (E : Vc) (C : Nat → Vc) (U : Vc) (s : Vc) : Int32 := s 6 + sU E C U s
def sHy (V : Vc) (s : Vc) : Int32 := s 7 + V (s 12).toNatClampNeg
def sP (E : Vc) (C : Nat → Vc) (U : Vc) (s : Vc) : Int32 := s 0 + s 2 - sHx E C U s
def sQ (E : Vc) (V : Vc) (s : Vc) : Int32 := s 1 + (s 3 - E 1) - sHy V s
def sSq (p q : Int32) : Int32 := p * p + q * q
/-- behind the cord: 6 x, 7 y, 8 pace x, 9 pace y, 10 turn, 11 spin, 12 taut, 16 tauts, out of what they were -/
noncomputable def hold (cord hx hy u : Int32) (f : Vc) (j : Nat) : Int32 :=
  if cord * cord < sSq (f 6 - hx) (f 7 - hy) then
    (if j = 6 then hx + (f 6 - hx) * cord / rt (sSq (f 6 - hx) (f 7 - hy)) else if j = 7 then hy + (f 7 - hy) * cord / rt (sSq (f 6 - hx) (f 7 - hy)) else
     if j = 8 then f 8 + ((f 6 - hx) * cord / rt (sSq (f 6 - hx) (f 7 - hy)) - (f 6 - hx)) else if j = 9 then f 9 + ((f 7 - hy) * cord / rt (sSq (f 6 - hx) (f 7 - hy)) - (f 7 - hy)) else
     if j = 10 then 0 else if j = 11 then (f 8 + ((f 6 - hx) * cord / rt (sSq (f 6 - hx) (f 7 - hy)) - (f 6 - hx)) - u) / 3 else if j = 12 then 1 else if j = 16 then f 16 + 1 else f j)
  else (if j = 10 then (f 10 + f 11) &&& 15 else if j = 12 then 0 else f j)
def cupIn (C : Nat → Vc) (ay nx ny : Int32) (i : Nat) : Prop := (C i 1 ≤ ay ∧ ny < C i 1) ∧ ab (nx - C i 0) ≤ C i 2 + 2
noncomputable def metC (C : Nat → Vc) (nc : Nat) (ay nx ny : Int32) : Int32 := fstc (cupIn C ay nx ny) nc
def upr (t : Int32) : Prop := t = 15 ∨ t = 0 ∨ t = 1
def soft (E : Vc) (C : Nat → Vc) (hx u : Int32) (f : Vc) (c : Int32) : Prop := ab (f 6 - hx - C c.toNatClampNeg 0) ≤ C c.toNatClampNeg 2 ∧ ab (f 8 - u) ≤ E 2 ∧ (C c.toNatClampNeg 4 = 0 ∨ upr (f 10))
