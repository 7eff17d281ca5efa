/-! ===== a try, as numbers: E 0 cord, 1 weight, 2 soft, 3 whether cups are met, 4 the late cup or -1, 5 late from; C cups, nc how many; U, V the hand's steps.
 s 0 x, 1 y, 2 pace x, 3 pace y, 4 turn, 5 spin, 6 hand x, 7 hand y, 8 taut, 9 caught or -1, 10 rims, 11 tauts, 12 steps, 13 u, 14 v ===== -/
def ab (x : Int32) : Int32 := if 0 ≤ x then x else 0 - x
def IsRt (v r : Int32) : Prop := 0 ≤ r.toInt ∧ r.toInt * r.toInt ≤ v.toInt ∧ v.toInt < (r.toInt + 1) * (r.toInt + 1)
noncomputable def rt (v : Int32) : Int32 := Classical.epsilon (fun r => IsRt v r)
theorem IsRt.one {v r q : Int32} (h : IsRt v r) (h2 : IsRt v q) : r = q := by
  obtain ⟨a1, a2, a3⟩ := h
  obtain ⟨b1, b2, b3⟩ := h2
  rw [i_eq]
  rcases Int.lt_trichotomy r.toInt q.toInt with e | e | e
  · have : (r.toInt + 1) * (r.toInt + 1) ≤ q.toInt * q.toInt := Int.mul_le_mul (by omega) (by omega) (by omega) (by omega)
    omega
  · exact e
  · have : (q.toInt + 1) * (q.toInt + 1) ≤ r.toInt * r.toInt := Int.mul_le_mul (by omega) (by omega) (by omega) (by omega)
    omega
theorem rt_is {v r : Int32} (h : IsRt v r) : rt v = r := (Classical.epsilon_spec (p := fun r => IsRt v r) ⟨r, h⟩).one h
def FsP (P : Nat → Prop) (n : Nat) (r : Int32) : Prop := (∃ i, i < n ∧ r = nI i ∧ P i ∧ ∀ j, j < i → ¬ P j) ∨ (r = -1 ∧ ∀ i, i < n → ¬ P i)
noncomputable def fstc (P : Nat → Prop) (n : Nat) : Int32 := Classical.epsilon (FsP P n)
theorem FsP.one {P : Nat → Prop} {n : Nat} {r q : Int32} (h : FsP P n r) (h2 : FsP P n q) : r = q := by
  rcases h with ⟨i, hi, rfl, hp, hm⟩ | ⟨rfl, h⟩ <;> rcases h2 with ⟨j, hj, rfl, hq, hn⟩ | ⟨rfl, h2⟩
  · rcases Nat.lt_trichotomy i j with e | e | e
    · exact absurd hp (hn i e)
    · rw [e]
    · exact absurd hq (hm j e)
  · exact absurd hp (h2 i hi)
  · exact absurd hq (h j hj)
  · rfl
theorem fstc_is {P : Nat → Prop} {n : Nat} {r : Int32} (h : FsP P n r) : fstc P n = r := (Classical.epsilon_spec (p := FsP P n) ⟨r, h⟩).one h
def cmp3 (a b : Int32) : Int32 := if a < b then -1 else if a = b then 0 else 1
abbrev Vc : Type := Nat → Int32
def sSide (E : Vc) (C : Nat → Vc) (s : Vc) : Int32 := if E 4 = -1 ∨ s 12 < E 5 ∨ ¬ s 8 = 0 then 0 else cmp3 (s 0 - s 6) (C (E 4).toNatClampNeg 0)
def sU (E : Vc) (C : Nat → Vc) (U : Vc) (s : Vc) : Int32 := sSide E C s + U (s 12).toNatClampNeg
def sHx (E : Vc) (C : Nat → Vc) (U : Vc) (s : Vc) : Int32 := s 6 + sU E C U s
def sHy (V : Vc) (s : Vc) : Int32 := s 7 + V (s 12).toNatClampNeg
def sP (E : Vc) (C : Nat → Vc) (U : Vc) (s : Vc) : Int32 := s 0 + s 2 - sHx E C U s
def sQ (E : Vc) (V : Vc) (s : Vc) : Int32 := s 1 + (s 3 - E 1) - sHy V s
def sSq (p q : Int32) : Int32 := p * p + q * q
/-- what the cord does to f: 6 x, 7 y, 8 pace x, 9 pace y, 10 turn, 11 spin, 12 taut, 16 tauts -/
def hTaut (cord hx hy : Int32) (f : Vc) : Prop := ¬ sSq (f 6 - hx) (f 7 - hy) ≤ cord * cord
noncomputable def hPx (cord hx hy : Int32) (f : Vc) : Int32 := (f 6 - hx) * cord / rt (sSq (f 6 - hx) (f 7 - hy))
noncomputable def hPy (cord hx hy : Int32) (f : Vc) : Int32 := (f 7 - hy) * cord / rt (sSq (f 6 - hx) (f 7 - hy))
def Hold (cord hx hy u : Int32) (f g : Vc) : Prop := (∀ j, j ≠ 6 → j ≠ 7 → j ≠ 8 → j ≠ 9 → j ≠ 10 → j ≠ 11 → j ≠ 12 → j ≠ 16 → g j = f j) ∧
  ((hTaut cord hx hy f ∧ g 6 = hx + hPx cord hx hy f ∧ g 7 = hy + hPy cord hx hy f ∧ g 8 = f 8 + (hPx cord hx hy f - (f 6 - hx)) ∧ g 9 = f 9 + (hPy cord hx hy f - (f 7 - hy)) ∧ g 10 = 0 ∧ g 11 = (f 8 + (hPx cord hx hy f - (f 6 - hx)) - u) / 3 ∧ g 12 = 1 ∧ g 16 = f 16 + 1) ∨
   (¬ hTaut cord hx hy f ∧ g 6 = f 6 ∧ g 7 = f 7 ∧ g 8 = f 8 ∧ g 9 = f 9 ∧ g 10 = (f 10 + f 11) &&& 15 ∧ g 11 = f 11 ∧ g 12 = 0 ∧ g 16 = f 16))
def cupIn (C : Nat → Vc) (ay nx ny : Int32) (i : Nat) : Prop := (¬ ay < C i 1 ∧ ¬ C i 1 ≤ ny) ∧ ¬ C i 2 + 2 < ab (nx - C i 0)
noncomputable def metC (C : Nat → Vc) (nc : Nat) (ay nx ny : Int32) : Int32 := fstc (cupIn C ay nx ny) nc
abbrev upr (t : Int32) : Prop := t = 15 ∨ t = 0 ∨ t = 1
abbrev sft (sf : Int32) (C : Vc) (hx u : Int32) (f : Vc) : Prop := ¬ C 2 < ab (f 6 - hx - C 0) ∧ ¬ sf < ab (f 8 - u) ∧ (C 4 = 0 ∨ upr (f 10))
def Land (sf : Int32) (C : Vc) (hx u cup : Int32) (f g : Vc) : Prop := (∀ j, j ≠ 9 → j ≠ 14 → j ≠ 15 → g j = f j) ∧
  ((sft sf C hx u f ∧ g 9 = f 9 ∧ g 14 = cup ∧ g 15 = f 15) ∨ (¬ sft sf C hx u f ∧ g 9 = ab (f 9) / 2 ∧ g 14 = f 14 ∧ g 15 = f 15 + 1))
def cupC (mu : Mu) : Nat → Vc := fun i j => mu (5 + i) j
