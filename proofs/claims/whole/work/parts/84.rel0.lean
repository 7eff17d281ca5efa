/-! ===== the class and the reference side by side ===== -/
def SRs (mu : Mu) (b : Nat) (S : Vc) : Prop := ∀ j, j < 3 → S j = mu (b + 1) j
def SRc (mu : Mu) (b : Nat) (C : Vc) (nc : Nat) : Prop := mu (b + 2) 2 = nI nc ∧ nc ≤ 4 ∧ ∀ i, i < nc → ∀ j, j < 5 → C (5 * i + j) = mu (b + 4 + i) j
def SRp (mu : Mu) (b : Nat) (P : Vc) (np : Nat) : Prop := mu (b + 8) 2 = nI np ∧ np ≤ 6 ∧ ∀ i, i < np → ∀ j, j < 3 → P (3 * i + j) = mu (b + 10 + i) j
def SRt (mu : Mu) (b : Nat) (T : Vc) (nt : Nat) : Prop := mu (b + 16) 2 = nI nt ∧ nt ≤ 8 ∧ ∀ i, i < nt → T (4 * i) = mu (b + 18 + i) 0 ∧ T (4 * i + 1) = mu (b + 18 + i) 1 ∧ T (4 * i) * T (4 * i + 2) = mu (b + 18 + i) 2 ∧ T (4 * i + 3) = mu (b + 18 + i) 3
def SR (mu : Mu) (b : Nat) (S C P T : Vc) (nc np nt : Nat) : Prop := SOK mu b ∧ SRs mu b S ∧ SRc mu b C nc ∧ SRp mu b P np ∧ SRt mu b T nt
theorem SR.cg {mu m : Mu} {b : Nat} {S C P T : Vc} {nc np nt : Nat} (h : SR mu b S C P T nc np nt) (hq : ∀ q, b ≤ q → q ≤ b + 25 → m q = mu q) : SR m b S C P T nc np nt := by
  obtain ⟨h1, h2, ⟨c1, c2, c3⟩, ⟨p1, p2, p3⟩, ⟨t1, t2, t3⟩⟩ := h
  refine ⟨h1.cg hq, fun j hj => by rw [hq (b + 1) (by omega) (by omega)]; exact h2 j hj, ⟨by rw [hq (b + 2) (by omega) (by omega)]; exact c1, c2, fun i hi j hj => by rw [hq (b + 4 + i) (by omega) (by omega)]; exact c3 i hi j hj⟩, ⟨by rw [hq (b + 8) (by omega) (by omega)]; exact p1, p2, fun i hi j hj => by rw [hq (b + 10 + i) (by omega) (by omega)]; exact p3 i hi j hj⟩, ⟨by rw [hq (b + 16) (by omega) (by omega)]; exact t1, t2, fun i hi => by rw [hq (b + 18 + i) (by omega) (by omega)]; exact t3 i hi⟩⟩
def R1 (mu : Mu) (nc np nt : Nat) : Prop := SR mu 1 (mu 95) (mu 96) (mu 97) (mu 98) nc np nt ∧ mu 94 1 = nI nc ∧ mu 94 3 = nI np ∧ mu 94 5 = nI nt
def R2 (mu : Mu) : Prop := ((mu 29 1 = nI 5 ∧ mu 35 1 = nI 3 ∧ mu 43 1 = nI 4) ∧ (∃ z, z ≤ 4 ∧ mu 29 2 = nI z) ∧ (∃ z, z ≤ 6 ∧ mu 35 2 = nI z) ∧ (∃ z, z ≤ 8 ∧ mu 43 2 = nI z)) ∧ ((mu 0 2 = 0 ∧ mu 94 36 = 0) ∨ (mu 0 2 = 1 ∧ mu 94 36 = 1 ∧ ∃ kc kp kt, SR mu 27 (mu 108) (fun j => mu 108 (3 + j)) (fun j => mu 108 (23 + j)) (fun j => mu 108 (41 + j)) kc kp kt ∧ mu 108 73 = nI kc ∧ mu 108 74 = nI kp ∧ mu 108 75 = nI kt))
def R3 (mu : Mu) : Prop := (∃ n, n ≤ 60 ∧ mu 70 1 = nI n ∧ mu 94 8 = nI n ∧ ∀ i, i < n → inB (mu 99 i) 32 126 = true) ∧ mu 71 = mu 99 ∧ mu 72 1 = nI 5 ∧ mu 78 1 = nI 3
def R4 (mu : Mu) : Prop := ∀ a, a < 4 → (mu 88 a = -1 ∧ mu 109 a = -1) ∨ ((∃ z, z ≤ 24 ∧ mu 88 a = nI z ∧ mu 110 a = nI z) ∧ mu 87 a = mu 109 a ∧ ¬ mu 109 a < 0 ∧ ∀ j, j < 24 → mu 111 (24 * a + j) = mu (90 + a) j)
def R5 (mu : Mu) : Prop := mu 94 15 = -4 ∧ mu 94 17 = 0
def RelN (mu : Mu) (nc np nt : Nat) : Prop := R1 mu nc np nt ∧ R2 mu ∧ R3 mu ∧ R4 mu ∧ R5 mu
def Rel (mu : Mu) : Prop := ∃ nc np nt, RelN mu nc np nt
theorem R1.cg {mu m : Mu} {nc np nt : Nat} (h : R1 mu nc np nt) (h1 : ∀ q, 1 ≤ q → q ≤ 26 → m q = mu q) (h2 : ∀ q, 95 ≤ q → q ≤ 98 → m q = mu q) (h3 : ∀ j, (j = 1 ∨ j = 3 ∨ j = 5) → m 94 j = mu 94 j) : R1 m nc np nt := by
  obtain ⟨a1, a2, a3, a4⟩ := h
  refine ⟨?_, by rw [h3 1 (by omega)]; exact a2, by rw [h3 3 (by omega)]; exact a3, by rw [h3 5 (by omega)]; exact a4⟩
  rw [h2 95 (by omega) (by omega), h2 96 (by omega) (by omega), h2 97 (by omega) (by omega), h2 98 (by omega) (by omega)]
  exact a1.cg (fun q q1 q2 => h1 q q1 (by omega))
theorem R2.cg {mu m : Mu} (h : R2 mu) (h0 : m 0 2 = mu 0 2) (h1 : ∀ q, 27 ≤ q → q ≤ 52 → m q = mu q) (h2 : m 108 = mu 108) (h3 : m 94 36 = mu 94 36) : R2 m := by
  unfold R2
  rw [h1 29 (by omega) (by omega), h1 35 (by omega) (by omega), h1 43 (by omega) (by omega), h0, h2, h3]
  refine ⟨h.1, h.2.imp id ?_⟩
  rintro ⟨b1, b2, kc, kp, kt, b3, b4⟩
  exact ⟨b1, b2, kc, kp, kt, b3.cg (fun q q1 q2 => h1 q q1 (by omega)), b4⟩
theorem R3.cg {mu m : Mu} (h : R3 mu) (h1 : m 70 1 = mu 70 1) (h2 : m 71 = mu 71) (h3 : m 72 1 = mu 72 1) (h4 : m 78 1 = mu 78 1) (h5 : m 99 = mu 99) (h6 : m 94 8 = mu 94 8) : R3 m := by
  unfold R3
  rw [h1, h2, h3, h4, h5, h6]
  exact h
theorem R4.cg {mu m : Mu} (h : R4 mu) (h1 : ∀ q, (87 ≤ q ∧ q ≤ 93) ∨ (109 ≤ q ∧ q ≤ 111) → m q = mu q) : R4 m := by
  intro a ha
  rw [h1 88 (by omega), h1 109 (by omega), h1 110 (by omega), h1 87 (by omega), h1 111 (by omega), h1 (90 + a) (by omega)]
  exact h a ha
theorem R5.cg {mu m : Mu} (h : R5 mu) (h1 : ∀ j, (j = 15 ∨ j = 17) → m 94 j = mu 94 j) : R5 m := ⟨by rw [h1 15 (by omega)]; exact h.1, by rw [h1 17 (by omega)]; exact h.2⟩
/-- what a call that only reads may change: on the class's side, on the reference's -/
def fC (mu m : Mu) : Prop := ∀ q, (q < 53 ∨ 69 < q) → m q = mu q
theorem RelN.c {mu m : Mu} {nc np nt : Nat} (h : RelN mu nc np nt) (f : fC mu m) : RelN m nc np nt :=
  ⟨h.1.cg (fun q _ _ => f q (by omega)) (fun q _ _ => f q (by omega)) (fun j _ => by rw [f 94 (by omega)]), h.2.1.cg (by rw [f 0 (by omega)]) (fun q _ _ => f q (by omega)) (f 108 (by omega)) (by rw [f 94 (by omega)]), h.2.2.1.cg (by rw [f 70 (by omega)]) (f 71 (by omega)) (by rw [f 72 (by omega)]) (by rw [f 78 (by omega)]) (f 99 (by omega)) (by rw [f 94 (by omega)]), h.2.2.2.1.cg (fun q _ => f q (by omega)), h.2.2.2.2.cg (fun j _ => by rw [f 94 (by omega)])⟩
theorem RelN.r {mu m : Mu} {nc np nt : Nat} (h : RelN mu nc np nt) (f : frM mu m) : RelN m nc np nt :=
  ⟨h.1.cg (fun q _ _ => f.1 q (by omega)) (fun q _ _ => f.1 q (by omega)) (fun j _ => f.2 j (by omega)), h.2.1.cg (by rw [f.1 0 (by omega)]) (fun q _ _ => f.1 q (by omega)) (f.1 108 (by omega)) (f.2 36 (by omega)), h.2.2.1.cg (by rw [f.1 70 (by omega)]) (f.1 71 (by omega)) (by rw [f.1 72 (by omega)]) (by rw [f.1 78 (by omega)]) (f.1 99 (by omega)) (f.2 8 (by omega)), h.2.2.2.1.cg (fun q _ => f.1 q (by omega)), h.2.2.2.2.cg (fun j _ => f.2 j (by omega))⟩
theorem fr2.c {mu m : Mu} (h : fr2 mu m) : fC mu m := fun q hq => h q (by omega) (by omega)
theorem fr6.c {mu m : Mu} (h : fr6 mu m) : fC mu m := fun q hq => h q (by omega)
theorem frR.m {mu m : Mu} (h : frR mu m) : frM mu m := ⟨fun q hq => h.1 q (by omega), fun j hj => h.2 j (by omega)⟩
theorem fC.rf (mu : Mu) : fC mu mu := fun _ _ => rfl
theorem R1.rb {mu : Mu} {nc np nt : Nat} (h : R1 mu nc np nt) (h5 : R5 mu) : RB mu nc np := by
  obtain ⟨⟨a1, a2, ⟨c1, c2, c3⟩, ⟨p1, p2, p3⟩, -⟩, b1, b2, b3⟩ := h
  have hu := toldU a1
  have e0 : 0 < np → tget mu 9 0 1 = mu 11 1 ∧ tget mu 9 0 2 = mu 11 2 := fun h0 => ⟨tget_in (k := 9) (i := 0) (j := 1) p1 a1.t9.1 h0 (by omega) (by omega) (by omega), tget_in (k := 9) (i := 0) (j := 2) p1 a1.t9.1 h0 (by omega) (by omega) (by omega)⟩
  refine ⟨a1, ⟨⟨a2 0 (by omega), a2 1 (by omega), a2 2 (by omega)⟩, ⟨c1, b1, c2, c3⟩, ⟨p1, b2, p2, fun i hi => p3 i hi 0 (by omega), fun h0 => ?_, fun i _ hi => ⟨p3 i hi 1 (by omega), p3 i hi 2 (by omega)⟩⟩⟩, a1.1.1, hu.1, hu.2, Or.inl ⟨rfl, h5.2⟩, Or.inl ⟨rfl, h5.1⟩, Or.inl rfl⟩
  have h1 := p3 0 h0 1 (by omega)
  have h2 := p3 0 h0 2 (by omega)
  exact ⟨h1.trans (e0 h0).1.symm, h2.trans (e0 h0).2.symm⟩
theorem RelN.rb {mu : Mu} {nc np nt : Nat} (h : RelN mu nc np nt) : RB mu nc np := h.1.rb h.2.2.2.2
theorem RelN.sok {mu : Mu} {nc np nt : Nat} (h : RelN mu nc np nt) : SOK mu 1 := h.1.1.1
theorem RelN.hok {mu : Mu} {nc np nt : Nat} (h : RelN mu nc np nt) : HOK mu := fun a ha => (h.2.2.2.1 a ha).imp (fun h => h.1) (fun h => by obtain ⟨⟨z, h1, h2, -⟩, -⟩ := h; exact ⟨z, h1, h2⟩)
theorem R4.rhs {mu : Mu} (h : R4 mu) : RHs mu := fun a ha hn => by
  rcases h a ha with h | ⟨⟨z, h1, -, h3⟩, -⟩
  · rw [h.2] at hn
    exact absurd (by decide) hn
  · exact ⟨z, h1, h3⟩
/-! the words of the contracts don't see what such a call changes -/
theorem tvT_c {mu m : Mu} (hS : SOK mu 1) (f : fC mu m) : tvT m = tvT mu := by
  funext n j
  unfold tvT
  rw [tv_cg hS.t9 (fun q _ _ => f q (by omega)), f 2 (by omega), tget_cg tab9 hS.t9 (fun q _ _ => f q (by omega)), tget_cg tab9 hS.t9 (fun q _ _ => f q (by omega))]
theorem odS_c {mu m : Mu} (hS : SOK mu 1) (f : fC mu m) : odS m = odS mu := od_cg hS.t9 (fun q _ _ => f q (by omega))
theorem tv_c {mu m : Mu} (hS : SOK mu 1) (f : fC mu m) : tv m = tv mu := tv_cg hS.t9 (fun q _ _ => f q (by omega))
theorem eG_c {mu m : Mu} (hS : SOK mu 1) (f : fC mu m) : eG m = eG mu := by
  funext c k
  unfold eG
  rw [tv_c hS f]
theorem whF_c {mu m : Mu} (hS : SOK mu 1) (f : fC mu m) {n : Nat} (hn : n ≤ 4) : bst (whF m) nI (-4) n = bst (whF mu) nI (-4) n := by
  have key : ∀ k, k ≤ 4 → bst (whF m) nI (-4) k = bst (whF mu) nI (-4) k := by
    intro k
    induction k with
    | zero => intro _; simp only [bst]
    | succ k ih =>
      intro hk
      show (if whF m k ≤ (bst (whF m) nI (-4) k).2 then bst (whF m) nI (-4) k else (nI k, whF m k)) = (if whF mu k ≤ (bst (whF mu) nI (-4) k).2 then bst (whF mu) nI (-4) k else (nI k, whF mu k))
      have e : whF m k = whF mu k := by unfold whF; rw [odS_c hS f, f 2 (by omega), f (5 + k) (by omega)]
      rw [ih (by omega), e]
  exact key n hn
theorem coF_c {mu m : Mu} (hS : SOK mu 1) (f : fC mu m) : coF m = coF mu := by
  funext c i
  unfold coF
  rw [odS_c hS f]
theorem mdS_c {mu m : Mu} (hS : SOK mu 1) (f : fC mu m) (c : Nat) (lf : Int32) : ∀ n, mdS m c lf n = mdS mu c lf n
  | 0 => rfl
  | n + 1 => by
    show mdS m c lf n + (if ¬ eG m (m 2 0) n = nI c ∧ lG m c lf n = nI c then 1 else 0) = mdS mu c lf n + (if ¬ eG mu (mu 2 0) n = nI c ∧ lG mu c lf n = nI c then 1 else 0)
    have e : lG m c lf n = lG mu c lf n := by unfold lG; rw [tv_c hS f, f 2 (by omega)]
    rw [mdS_c hS f c lf n, eG_c hS f, f 2 (by omega), e]
theorem dnP_c {mu m : Mu} (hS : SOK mu 1) (f : fC mu m) : dnP m = dnP mu := by
  funext k p i
  unfold dnP dnT
  rw [tv_c hS f, f 2 (by omega), tget_cg tab9 hS.t9 (fun q _ _ => f q (by omega)), tget_cg tab9 hS.t9 (fun q _ _ => f q (by omega))]
theorem hs_eq {mu m : Mu} {nc np nt : Nat} (h : RelN mu nc np nt) (c : Int32) : hasB mu 3 c = hsB (nI nc) c := by
  show decide (¬ c < 0 ∧ ¬ mu 3 2 ≤ c) = decide (¬ c < 0 ∧ ¬ nI nc ≤ c)
  rw [h.1.1.2.2.1.1]
