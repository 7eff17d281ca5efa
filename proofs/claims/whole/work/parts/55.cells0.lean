/-! ===== cells: neighbours, labels, counts ===== -/
def adj (a b : Nat) : Prop := (b = a + 1 ∧ a % 10 < 9) ∨ (b + 1 = a ∧ 0 < a % 10) ∨ b = a + 10 ∨ b + 10 = a
theorem adj.sy {a b : Nat} (h : adj a b) : adj b a := by unfold adj at *; omega
def Rn (F : Nat → Prop) : Nat → Nat → Nat → Prop
  | 0, a, b => a = b
  | n + 1, a, c => ∃ b, Rn F n a b ∧ adj b c ∧ F c
theorem Rn.F {F : Nat → Prop} : ∀ {n a b : Nat}, Rn F n a b → F a → F b
  | 0, a, b, h, ha => by cases h; exact ha
  | n + 1, a, c, h, ha => by obtain ⟨b, h1, h2, h3⟩ := h; exact h3
theorem Rn.pre {F : Nat → Prop} {a b : Nat} (hab : adj a b) (hb : F b) : ∀ {n c : Nat}, Rn F n b c → Rn F (n + 1) a c
  | 0, c, h => by cases h; exact ⟨a, rfl, hab, hb⟩
  | n + 1, c, h => by
    obtain ⟨d, h1, h2, h3⟩ := h
    exact ⟨d, Rn.pre hab hb h1, h2, h3⟩
def Lab (F : Nat → Prop) (l : Nat → Nat) : Prop := (∀ k, F k → F (l k) ∧ (∃ n, Rn F n k (l k)) ∧ l k ≤ k) ∧ ∀ a b, F a → F b → adj a b → l a = l b
theorem Lab.con {F : Nat → Prop} {l : Nat → Nat} (h : Lab F l) : ∀ {n a b : Nat}, Rn F n a b → F a → l b = l a
  | 0, a, b, hr, ha => by cases hr; rfl
  | n + 1, a, c, hr, ha => by
    obtain ⟨b, h1, h2, h3⟩ := hr
    rw [← h.con h1 ha]
    exact (h.2 b c (h1.F ha) h3 h2).symm
theorem Lab.self {F : Nat → Prop} {l : Nat → Nat} (h : Lab F l) {k : Nat} (hk : F k) : l (l k) = l k := by
  obtain ⟨-, ⟨n, hn⟩, -⟩ := h.1 k hk
  exact h.con hn hk
theorem Lab.one {F : Nat → Prop} {l l' : Nat → Nat} (h : Lab F l) (h' : Lab F l') {k : Nat} (hk : F k) : l k = l' k := by
  obtain ⟨a1, ⟨n, a2⟩, -⟩ := h.1 k hk
  obtain ⟨b1, ⟨n', b2⟩, -⟩ := h'.1 k hk
  have e1 := h.con b2 hk
  have e2 := h'.con a2 hk
  have f1 := (h.1 _ b1).2.2
  have f2 := (h'.1 _ a1).2.2
  omega
theorem mn_ex (P : Nat → Prop) : ∀ (n k : Nat), k < n → P k → ∃ m, P m ∧ ∀ j, P j → m ≤ j
  | 0, k, hk, _ => by omega
  | n + 1, k, hk, h => by
    by_cases q : ∃ j, j < k ∧ P j
    · obtain ⟨j, q1, q2⟩ := q
      exact mn_ex P n j (by omega) q2
    · exact ⟨k, h, fun j hj => Nat.not_lt.mp (fun h9 => q ⟨j, h9, hj⟩)⟩
theorem lab_ex (F : Nat → Prop) : ∃ l, Lab F l := by
  have key : ∀ k, ∃ m, F k → (F m ∧ ∃ n, Rn F n k m) ∧ ∀ j, (F j ∧ ∃ n, Rn F n k j) → m ≤ j := by
    intro k
    by_cases hk : F k
    · obtain ⟨m, h1, h2⟩ := mn_ex (fun j => F j ∧ ∃ n, Rn F n k j) (k + 1) k (Nat.lt_succ_self k) ⟨hk, 0, rfl⟩
      exact ⟨m, fun _ => ⟨h1, h2⟩⟩
    · exact ⟨0, fun h => absurd h hk⟩
  refine ⟨fun k => Classical.choose (key k), fun k hk => ?_, fun a b ha hb hab => ?_⟩
  · have h := Classical.choose_spec (key k) hk
    exact ⟨h.1.1, h.1.2, h.2 k ⟨hk, 0, rfl⟩⟩
  · have h1 := Classical.choose_spec (key a) ha
    have h2 := Classical.choose_spec (key b) hb
    obtain ⟨⟨f1, n1, r1⟩, m1⟩ := h1
    obtain ⟨⟨f2, n2, r2⟩, m2⟩ := h2
    have q1 := m1 _ ⟨f2, n2 + 1, r2.pre hab hb⟩
    have q2 := m2 _ ⟨f1, n1 + 1, r1.pre hab.sy ha⟩
    show Classical.choose (key a) = Classical.choose (key b)
    omega
def cN (S : Nat → Bool) : Nat → Nat
  | 0 => 0
  | n + 1 => cN S n + (if S n = true then 1 else 0)
theorem cN_le (S : Nat → Bool) : ∀ n, cN S n ≤ n
  | 0 => Nat.le_refl _
  | n + 1 => by
    have := cN_le S n
    show cN S n + (if S n = true then 1 else 0) ≤ n + 1
    split <;> omega
theorem cN_full {S : Nat → Bool} : ∀ {n : Nat}, cN S n = n → ∀ j, j < n → S j = true
  | n + 1, h, j, hj => by
    have h1 := cN_le S n
    have h2 : cN S n + (if S n = true then 1 else 0) = n + 1 := h
    by_cases q : S n = true
    · rw [if_pos q] at h2
      by_cases e : j = n
      · rw [e]; exact q
      · exact cN_full (n := n) (by omega) j (by omega)
    · rw [if_neg q] at h2
      omega
theorem cN_zero {S : Nat → Bool} : ∀ {n : Nat}, cN S n = 0 → ∀ j, j < n → ¬ S j = true
  | n + 1, h, j, hj => by
    have h2 : cN S n + (if S n = true then 1 else 0) = 0 := h
    by_cases q : S n = true
    · rw [if_pos q] at h2; omega
    · by_cases e : j = n
      · rw [e]; exact q
      · exact cN_zero (n := n) (by omega) j (by omega)
theorem cN_cg {S S' : Nat → Bool} : ∀ {n : Nat}, (∀ j, j < n → S j = S' j) → cN S n = cN S' n
  | 0, _ => rfl
  | n + 1, h => by
    show cN S n + (if S n = true then 1 else 0) = cN S' n + (if S' n = true then 1 else 0)
    rw [cN_cg (n := n) (fun j hj => h j (by omega)), h n (by omega)]
theorem cN_no {S : Nat → Bool} : ∀ {n : Nat}, (∀ j, j < n → ¬ S j = true) → cN S n = 0
  | 0, _ => rfl
  | n + 1, h => by
    show cN S n + (if S n = true then 1 else 0) = 0
    rw [cN_no (n := n) (fun j hj => h j (by omega)), if_neg (h n (by omega))]
theorem cN_add {S : Nat → Bool} {j : Nat} (h : ¬ S j = true) : ∀ {n : Nat}, j < n → cN (fun x => S x || x == j) n = cN S n + 1
  | n + 1, hj => by
    show cN (fun x => S x || x == j) n + (if (S n || n == j) = true then 1 else 0) = cN S n + (if S n = true then 1 else 0) + 1
    by_cases e : j = n
    · subst e
      rw [cN_cg (S' := S) (fun t ht => by rw [show (t == j) = false from beq_false_of_ne (by omega), Bool.or_false]), if_neg h, if_pos (by rw [beq_self_eq_true, Bool.or_true])]
    · rw [cN_add h (n := n) (by omega), show (n == j) = false from beq_false_of_ne (by omega), Bool.or_false]
      omega
def FB (f : Nat → Int32) (cup : Int32) (j : Nat) : Bool := decide (j < 90 ∧ f j = cup)
theorem FB_t {f : Nat → Int32} {cup : Int32} {j : Nat} (h : FB f cup j = true) : j < 90 ∧ f j = cup := of_decide_eq_true h
theorem FB_i {f : Nat → Int32} {cup : Int32} {j : Nat} (h1 : j < 90) (h : f j = cup) : FB f cup j = true := decide_eq_true ⟨h1, h⟩
def sz (B : Nat → Bool) (l : Nat → Nat) (p : Nat) : Nat := cN (fun j => B j && l j == p) 90
def snB (B : Nat → Bool) (l : Nat → Nat) (p j : Nat) : Bool := B j && decide (l j < p)
theorem snB_i {B : Nat → Bool} {l : Nat → Nat} {p j : Nat} : snB B l p j = true ↔ B j = true ∧ l j < p := by
  unfold snB
  rw [Bool.and_eq_true, decide_eq_true_eq]
/-- the search for a cell: S is what joined, c of them in the queue, i of them gone through -/
def BI (mu m : Mu) (B : Nat → Bool) (l : Nat → Nat) (p : Nat) (S : Nat → Bool) (c i : Nat) : Prop := (∀ q, q ≠ 57 → q ≠ 58 → m q = mu q) ∧ c = cN S 90 ∧ (∀ j, j < 90 → m 57 j = if (snB B l p j || S j) = true then 1 else 0) ∧ (∀ j, S j = true → B j = true ∧ l j = p) ∧ (∀ j, S j = true → ∃ t, t < c ∧ m 58 t = nI j) ∧ (∀ t, t < c → ∃ j, S j = true ∧ m 58 t = nI j) ∧ (∀ t j, t < i → m 58 t = nI j → S j = true → ∀ b, adj j b → B b = true → S b = true)
def JN (mu mu2 : Mu) (x cup : Int32) (c : Nat) (r : Int32) : Prop := (∃ b, x = nI b ∧ b < 90 ∧ c < 90 ∧ mu 57 b = 0 ∧ mu 56 b = cup ∧ mu2 = upF (upF mu 57 b 1) 58 c (nI b) ∧ r = nI (c + 1)) ∨ (mu2 = mu ∧ r = nI c ∧ ∀ b, x = nI b → b < 90 → c < 90 → mu 57 b = 0 → ¬ mu 56 b = cup)
theorem BI.join {mu m m2 : Mu} {f : Vc} {cup x r : Int32} {l : Nat → Nat} {p c i : Nat} {S : Nat → Bool} (ef : mu 56 = f) (h : BI mu m (FB f cup) l p S c i) (hi : i ≤ c) (hJ : JN m m2 x cup c r) (hx : ∀ b, x = nI b → b < 90 → FB f cup b = true → l b = p) : ∃ S2 c2, r = nI c2 ∧ BI mu m2 (FB f cup) l p S2 c2 i ∧ (∀ j, S j = true → S2 j = true) ∧ (∀ b, x = nI b → b < 90 → FB f cup b = true → S2 b = true) ∧ c ≤ c2 ∧ ∀ t, t < c → m2 58 t = m 58 t := by
  obtain ⟨a0, a1, a2, a3, a4, a5, a6⟩ := h
  rcases hJ with ⟨b, e1, e2, e3, e4, e5, e6, e7⟩ | ⟨e1, e2, e3⟩
  · have hBb : FB f cup b = true := FB_i e2 (by rw [← ef, ← a0 56 (by decide) (by decide)]; exact e5)
    have hlb := hx b e1 e2 hBb
    have hSb : ¬ S b = true := fun h9 => by
      have := a2 b e2
      rw [h9, Bool.or_true, if_pos rfl, e4] at this
      exact absurd this (by decide)
    subst e6
    have s57 : ∀ j, upF (upF m 57 b 1) 58 c (nI b) 57 j = if j = b then 1 else m 57 j := fun j => by
      rw [upF_k (by decide)]
      by_cases q : j = b
      · rw [q, upF_s, if_pos rfl]
      · rw [upF_i q, if_neg q]
    have s58 : ∀ t, upF (upF m 57 b 1) 58 c (nI b) 58 t = if t = c then nI b else m 58 t := fun t => by
      by_cases q : t = c
      · rw [q, upF_s, if_pos rfl]
      · rw [upF_i q, if_neg q, upF_k (by decide)]
    refine ⟨fun j => S j || j == b, c + 1, e7, ⟨fun q q1 q2 => by rw [upF_k q2, upF_k q1]; exact a0 q q1 q2, by rw [cN_add hSb e2, a1], fun j hj => ?_, fun j hj => ?_, fun j hj => ?_, fun t ht => ?_, fun t j ht ht2 hj d hd hBd => ?_⟩, fun j hj => by show (S j || j == b) = true; rw [hj]; rfl, fun d hd _ _ => ?_, by omega, fun t ht => by rw [s58, if_neg (by omega)]⟩
    · rw [s57]
      by_cases q : j = b
      · rw [if_pos q, q]
        show (1 : Int32) = if (snB (FB f cup) l p b || (S b || b == b)) = true then 1 else 0
        rw [beq_self_eq_true, Bool.or_true, Bool.or_true, if_pos rfl]
      · rw [if_neg q, a2 j hj]
        show _ = if (snB (FB f cup) l p j || (S j || j == b)) = true then 1 else 0
        rw [show (j == b) = false from beq_false_of_ne q, Bool.or_false]
    · have h9 : (S j || j == b) = true := hj
      rw [Bool.or_eq_true] at h9
      rcases h9 with h9 | h9
      · exact a3 j h9
      · rw [beq_iff_eq.mp h9]; exact ⟨hBb, hlb⟩
    · have h9 : (S j || j == b) = true := hj
      rw [Bool.or_eq_true] at h9
      rcases h9 with h9 | h9
      · obtain ⟨t, t1, t2⟩ := a4 j h9
        exact ⟨t, by omega, by rw [s58, if_neg (by omega)]; exact t2⟩
      · exact ⟨c, by omega, by rw [s58, if_pos rfl, beq_iff_eq.mp h9]⟩
    · by_cases q : t = c
      · exact ⟨b, by show (S b || b == b) = true; rw [beq_self_eq_true, Bool.or_true], by rw [s58, if_pos q]⟩
      · obtain ⟨j, j1, j2⟩ := a5 t (by omega)
        exact ⟨j, by show (S j || j == b) = true; rw [j1]; rfl, by rw [s58, if_neg q]; exact j2⟩
    · rw [s58, if_neg (by omega)] at ht2
      obtain ⟨j', j1, j2⟩ := a5 t (by omega)
      have hj90 := (FB_t (a3 j' j1).1).1
      have hj90' : j < 90 := by
        have h9 : (S j || j == b) = true := hj
        rw [Bool.or_eq_true] at h9
        rcases h9 with h9 | h9
        · exact (FB_t (a3 j h9).1).1
        · rw [beq_iff_eq.mp h9]; exact e2
      have ej : j' = j := (nI_eq (by omega) (by omega)).mp (j2.symm.trans ht2)
      show (S d || d == b) = true
      rw [a6 t j ht ht2 (ej ▸ j1) d hd hBd]
      rfl
    · have ed : d = b := (nI_eq (by omega) (by omega)).mp (hd.symm.trans e1)
      show (S d || d == b) = true
      rw [ed, beq_self_eq_true, Bool.or_true]
  · subst e1
    refine ⟨S, c, e2, ⟨a0, a1, a2, a3, a4, a5, a6⟩, fun j hj => hj, fun b hb hb2 hBb => ?_, Nat.le_refl _, fun _ _ => rfl⟩
    cases hS : S b
    · exfalso
      have hc : c < 90 := by
        have := cN_le S 90
        by_cases q : cN S 90 = 90
        · have := cN_full q b hb2
          rw [hS] at this; cases this
        · omega
      refine e3 b hb hb2 hc ?_ (by rw [a0 56 (by decide) (by decide), ef]; exact (FB_t hBb).2)
      rw [a2 b hb2, hS, Bool.or_false, if_neg]
      intro h9
      have := (snB_i.mp h9).2
      have := hx b hb hb2 hBb
      omega
    · rfl
theorem BI.begin {mu m2 : Mu} {f : Vc} {cup r : Int32} {l : Nat → Nat} {p : Nat} (ef : mu 56 = f) (hl : Lab (fun j => FB f cup j = true) l) (hp : p < 90) (hs : ∀ j, j < 90 → mu 57 j = if snB (FB f cup) l p j = true then 1 else 0) (hJ : JN mu m2 (nI p) cup 0 r) : ∃ S c, r = nI c ∧ BI mu m2 (FB f cup) l p S c 0 ∧ (S p = true ∨ (c = 0 ∧ ¬ (FB f cup p = true ∧ l p = p))) := by
  have h0 : BI mu mu (FB f cup) l p (fun _ => false) 0 0 := ⟨fun _ _ _ => rfl, (cN_no (fun _ _ h => by cases h)).symm, fun j hj => by rw [Bool.or_false]; exact hs j hj, fun j h => (by cases h), fun j h => (by cases h), fun t h => by omega, fun t j h => by omega⟩
  by_cases q : FB f cup p = true ∧ l p = p
  · obtain ⟨S, c, h1, h2, -, h3, -⟩ := h0.join ef (Nat.le_refl _) hJ (fun b hb hb2 _ => by rw [← (nI_eq (by omega) (by omega)).mp hb]; exact q.2)
    exact ⟨S, c, h1, h2, Or.inl (h3 p rfl hp q.1)⟩
  · rcases hJ with ⟨b, e1, e2, e3, e4, e5, e6, e7⟩ | ⟨e1, e2, e3⟩
    · have eb : p = b := (nI_eq (by omega) (by omega)).mp e1
      subst eb
      exfalso
      have hB : FB f cup p = true := FB_i e2 (by rw [← ef]; exact e5)
      have := hs p hp
      rw [e4] at this
      have h3 := (hl.1 p hB).2.2
      rw [if_pos (snB_i.mpr ⟨hB, by have : ¬ l p = p := fun h9 => q ⟨hB, h9⟩; omega⟩)] at this
      exact absurd this (by decide)
    · subst e1
      exact ⟨fun _ => false, 0, e2, h0, Or.inr ⟨rfl, q⟩⟩
theorem BI.next {mu m : Mu} {B : Nat → Bool} {l : Nat → Nat} {p c i a : Nat} {S : Nat → Bool} (h : BI mu m B l p S c i) (ha : m 58 i = nI a) (ha9 : a < 90) (hB : ∀ j, B j = true → j < 90) (hcl : ∀ b, adj a b → B b = true → S b = true) : BI mu m B l p S c (i + 1) := by
  obtain ⟨a0, a1, a2, a3, a4, a5, a6⟩ := h
  refine ⟨a0, a1, a2, a3, a4, a5, fun t j ht ht2 hj b hb hBb => ?_⟩
  by_cases q : t = i
  · subst q
    have := hB j (a3 j hj).1
    have ej : a = j := (nI_eq (by omega) (by omega)).mp (ha.symm.trans ht2)
    subst ej
    exact hcl b hb hBb
  · exact a6 t j (by omega) ht2 hj b hb hBb
theorem BI.fin {mu m : Mu} {f : Vc} {cup : Int32} {l : Nat → Nat} {p c i : Nat} {S : Nat → Bool} (hl : Lab (fun j => FB f cup j = true) l) (h : BI mu m (FB f cup) l p S c i) (hi : c ≤ i) (hp : S p = true ∨ (c = 0 ∧ ¬ (FB f cup p = true ∧ l p = p))) : c = sz (FB f cup) l p ∧ (∀ q, q ≠ 57 → q ≠ 58 → m q = mu q) ∧ ∀ j, j < 90 → m 57 j = if snB (FB f cup) l (p + 1) j = true then 1 else 0 := by
  obtain ⟨a0, a1, a2, a3, a4, a5, a6⟩ := h
  have hS : ∀ j, S j = (FB f cup j && l j == p) := by
    intro j
    cases hj : (FB f cup j && l j == p)
    · cases hS : S j
      · rfl
      · have := a3 j hS
        rw [this.1, this.2, beq_self_eq_true] at hj
        cases hj
    · rw [Bool.and_eq_true, beq_iff_eq] at hj
      have hlj := hl.1 j hj.1
      rw [hj.2] at hlj
      rcases hp with hp | ⟨hc, hno⟩
      · obtain ⟨-, ⟨n, hn⟩, -⟩ := hlj
        have key : ∀ (n a c : Nat), Rn (fun j => FB f cup j = true) n a c → FB f cup a = true → S c = true → S a = true := by
          intro n
          induction n with
          | zero => intro a c h1 _ h2; cases h1; exact h2
          | succ n ih =>
            intro a c h1 h0 h2
            obtain ⟨b, q1, q2, q3⟩ := h1
            obtain ⟨t, t1, t2⟩ := a4 c h2
            exact ih a b q1 h0 (a6 t c (by omega) t2 h2 b q2.sy (q1.F h0))
        exact key n j p hn hj.1 hp
      · exfalso
        refine hno ⟨hlj.1, ?_⟩
        have := hl.self hj.1
        rw [hj.2] at this
        exact this
  refine ⟨?_, a0, fun j hj => ?_⟩
  · rw [a1]
    exact cN_cg (fun j _ => hS j)
  · rw [a2 j hj, hS j]
    congr 1
    apply propext
    rw [Bool.or_eq_true, snB_i, snB_i, Bool.and_eq_true, beq_iff_eq]
    constructor
    · rintro (⟨h1, h2⟩ | ⟨h1, h2⟩)
      · exact ⟨h1, by omega⟩
      · exact ⟨h1, by omega⟩
    · rintro ⟨h1, h2⟩
      by_cases q : l j < p
      · exact Or.inl ⟨h1, q⟩
      · exact Or.inr ⟨h1, by omega⟩
def ccN (B : Nat → Bool) (l : Nat → Nat) : Nat → Nat
  | 0 => 0
  | p + 1 => ccN B l p + (if 0 < sz B l p then 1 else 0)
def mmN (B : Nat → Bool) (l : Nat → Nat) : Nat → Nat
  | 0 => 0
  | p + 1 => if mmN B l p < sz B l p then sz B l p else mmN B l p
theorem sz_le (B : Nat → Bool) (l : Nat → Nat) (p : Nat) : sz B l p ≤ 90 := cN_le _ 90
theorem ccN_le (B : Nat → Bool) (l : Nat → Nat) : ∀ p, ccN B l p ≤ p
  | 0 => Nat.le_refl _
  | p + 1 => by
    have := ccN_le B l p
    show ccN B l p + (if 0 < sz B l p then 1 else 0) ≤ p + 1
    split <;> omega
theorem mmN_le (B : Nat → Bool) (l : Nat → Nat) : ∀ p, mmN B l p ≤ 90
  | 0 => by show 0 ≤ 90; omega
  | p + 1 => by
    have := mmN_le B l p
    have := sz_le B l p
    show (if mmN B l p < sz B l p then sz B l p else mmN B l p) ≤ 90
    split <;> omega
