/-! ===== the judgement WA: the machine at a frame of a method, over the world mu ===== -/
abbrev CX : Type := Program × Launch × Env × Room × State × MethodId × Array Value × List Frame × Method × Code × (State → Prop) × Nat × Nat
abbrev xp (X : CX) : Program := X.1
abbrev xl (X : CX) : Launch := X.2.1
abbrev xe (X : CX) : Env := X.2.2.1
abbrev xR (X : CX) : Room := X.2.2.2.1
abbrev xs (X : CX) : State := X.2.2.2.2.1
abbrev xm (X : CX) : MethodId := X.2.2.2.2.2.1
abbrev xa (X : CX) : Array Value := X.2.2.2.2.2.2.1
abbrev xb (X : CX) : List Frame := X.2.2.2.2.2.2.2.1
abbrev xh (X : CX) : Method := X.2.2.2.2.2.2.2.2.1
abbrev xc (X : CX) : Code := X.2.2.2.2.2.2.2.2.2.1
abbrev xQ (X : CX) : State → Prop := X.2.2.2.2.2.2.2.2.2.2.1
abbrev xk (X : CX) : Nat := X.2.2.2.2.2.2.2.2.2.2.2.1
abbrev xn (X : CX) : Nat := X.2.2.2.2.2.2.2.2.2.2.2.2
abbrev GX : Type := va_G × (Nat → Nat) × (Nat → ClassId) × (Nat → Prop) × Nat × Nat
abbrev gD (g : GX) : va_G := g.1
abbrev gh (g : GX) : Nat → Nat := g.2.1
abbrev gc (g : GX) : Nat → ClassId := g.2.2.1
abbrev gA (g : GX) : Nat → Prop := g.2.2.2.1
abbrev gt0 (g : GX) : Nat := g.2.2.2.2.1
abbrev gt1 (g : GX) : Nat := g.2.2.2.2.2
def leastS (j : Nat) : Int32 := if j = 0 then 10 else if j = 1 then 1 else 0
def mostS (j : Nat) : Int32 := if j = 0 then 60 else if j = 1 then 4 else 20
/-- the two static rows that set and cord read -/
def SF (t0 t1 : Nat) (A : Nat → Prop) (U : State) (H : Heap) : Prop :=
  va_Z "BallInCup" "LEAST_SETTINGS" "[I" (.ref t0) A U H ∧ va_T .int t0 3 (fun j => .int (leastS j)) A U H ∧ va_Z "BallInCup" "MOST_SETTINGS" "[I" (.ref t1) A U H ∧ va_T .int t1 3 (fun j => .int (mostS j)) A U H
theorem SF.go {t0 t1 : Nat} {A B : Nat → Prop} {u U : State} {H H1 : Heap} (h : SF t0 t1 A u H) (hvm : u.vm.Alike U.vm) (hq : ∀ a : Nat, a < H.size → ¬ A a → H1[a]? = H[a]?) (hAB : ∀ q, B q → A q) : SF t0 t1 B U H1 :=
  ⟨((h.1.kept hq).narrow hAB).moved hvm, ((h.2.1.kept hq).narrow hAB).moved hvm, ((h.2.2.1.kept hq).narrow hAB).moved hvm, ((h.2.2.2.kept hq).narrow hAB).moved hvm⟩
def inj (h : Nat → Nat) : Prop := ∀ i j : Nat, i < NC → j < NC → h i = h j → i = j
def Fx (X : CX) (g : GX) (own : String) (nL : Nat) (cc : ByteArray) : Prop :=
  (xp X).tables.exec = Jvm.exec ∧ (xc X).code = cc ∧ (xc X).maxLocals = nL ∧ (xs X).vm.findClass own = some (xm X).cls ∧ (∀ w ∈ tb0, w.before (xa X) (xs X) = true) ∧ (∀ w ∈ nw0, va_Nw w (xs X)) ∧ va_K (gD g) vwCl (tyz (gc g)) (xs X) ∧ (inj (gh g) ∧ ∀ k, k < NC → gA g (gh g k)) ∧ (∀ q, (xs X).heap.size ≤ q → gA g q) ∧ SF (gt0 g) (gt1 g) (gA g) (xs X) (xs X).heap
def WA (X : CX) (g : GX) (own : String) (nL : Nat) (cc : ByteArray) (pc : Nat) (L : List (Nat × AV)) (st : List AV) (mu : Mu) : Prop :=
  Fx X g own nL cc → ∀ (H : Heap) (locs : List Loc) (ls : Array Slot), va_P (gD g) vwCl (wd (gh g) (gc g) mu) H → va_S (gA g) (xs X).heap H locs → lv_has ls nL (mpL (gh g) L) →
    W (xp X) (xl X) (xe X) (xR X) (xs X) (xm X) (xa X) (xb X) (xh X) (xc X) H locs (xk X) (xn X) (xQ X) (F0 (xm X) pc ls (st.map (cv (gh g))))
theorem wd_D {h : Nat → Nat} {cA : Nat → ClassId} {A : Nat → Prop} (hi : inj h ∧ ∀ k, k < NC → A (h k)) (mu : Mu) : va_D A (wd h cA mu) := by
  have key : ∀ (k : Nat) (q : Nat × va_E), (wd h cA mu)[k]? = some q → k < NC ∧ q.1 = h k := fun k q hq => by
    have hk : k < NC := by
      rcases Nat.lt_or_ge k NC with z | z
      · exact z
      · rw [wd_no (by omega)] at hq
        cases hq
    rw [wd_at hk] at hq
    cases hq
    exact ⟨hk, rfl⟩
  refine ⟨fun i j p q hp hq e => ?_, fun k q hq => ?_⟩
  · obtain ⟨a1, a2⟩ := key i p hp
    obtain ⟨b1, b2⟩ := key j q hq
    exact hi.1 i j a1 b1 (by rw [← a2, ← b2]; exact e)
  · obtain ⟨a1, a2⟩ := key k q hq
    rw [a2]
    exact hi.2 k a1
section ROWS
variable {X : CX} {g : GX} {own : String} {nL : Nat} {cc : ByteArray} {pc pc' : Nat} {L L' : List (Nat × AV)} {st : List AV} {mu : Mu}
theorem WA_st {st' : List AV} (h : st = st') (k : WA X g own nL cc pc L st' mu) : WA X g own nL cc pc L st mu := h ▸ k
theorem WA_loc (h : L = L') (k : WA X g own nL cc pc L' st mu) : WA X g own nL cc pc L st mu := h ▸ k
theorem WA_mu {mu' : Mu} (h : mu = mu') (k : WA X g own nL cc pc L st mu') : WA X g own nL cc pc L st mu := h ▸ k
theorem o_topi {x : Int32} (k : ∀ y : Int32, y = x → WA X g own nL cc pc L (vI y :: st) mu) : WA X g own nL cc pc L (vI x :: st) mu := k x rfl
theorem o_topj {x : Int64} (k : ∀ y : Int64, y = x → WA X g own nL cc pc L (vJ y :: st) mu) : WA X g own nL cc pc L (vJ x :: st) mu := k x rfl
theorem o_iadd {a b : Int32} (hd : decode cc pc = .ok (.iadd, 1)) (hn : pc + 1 = pc') (k : WA X g own nL cc pc' L (vI (a + b) :: st) mu) : WA X g own nL cc pc L (vI b :: vI a :: st) mu := by
  subst hn
  intro F H locs ls hP hS hl
  exact lv_iadd F.1 F.2.1 hd  (k F H locs ls hP hS hl)
theorem o_isub {a b : Int32} (hd : decode cc pc = .ok (.isub, 1)) (hn : pc + 1 = pc') (k : WA X g own nL cc pc' L (vI (a - b) :: st) mu) : WA X g own nL cc pc L (vI b :: vI a :: st) mu := by
  subst hn
  intro F H locs ls hP hS hl
  exact lv_isub F.1 F.2.1 hd  (k F H locs ls hP hS hl)
theorem o_imul {a b : Int32} (hd : decode cc pc = .ok (.imul, 1)) (hn : pc + 1 = pc') (k : WA X g own nL cc pc' L (vI (a * b) :: st) mu) : WA X g own nL cc pc L (vI b :: vI a :: st) mu := by
  subst hn
  intro F H locs ls hP hS hl
  exact lv_imul F.1 F.2.1 hd  (k F H locs ls hP hS hl)
theorem o_iand {a b : Int32} (hd : decode cc pc = .ok (.iand, 1)) (hn : pc + 1 = pc') (k : WA X g own nL cc pc' L (vI (a &&& b) :: st) mu) : WA X g own nL cc pc L (vI b :: vI a :: st) mu := by
  subst hn
  intro F H locs ls hP hS hl
  exact lv_iand F.1 F.2.1 hd  (k F H locs ls hP hS hl)
theorem o_ixor {a b : Int32} (hd : decode cc pc = .ok (.ixor, 1)) (hn : pc + 1 = pc') (k : WA X g own nL cc pc' L (vI (a ^^^ b) :: st) mu) : WA X g own nL cc pc L (vI b :: vI a :: st) mu := by
  subst hn
  intro F H locs ls hP hS hl
  exact lv_ixor F.1 F.2.1 hd  (k F H locs ls hP hS hl)
theorem o_ineg {a : Int32} (hd : decode cc pc = .ok (.ineg, 1)) (hn : pc + 1 = pc') (k : WA X g own nL cc pc' L (vI (-a) :: st) mu) : WA X g own nL cc pc L (vI a :: st) mu := by
  subst hn
  intro F H locs ls hP hS hl
  exact lv_ineg F.1 F.2.1 hd  (k F H locs ls hP hS hl)
theorem o_idiv {a b : Int32} (hd : decode cc pc = .ok (.idiv, 1)) (hn : pc + 1 = pc') (hz : ¬ b = 0) (k : WA X g own nL cc pc' L (vI (a / b) :: st) mu) : WA X g own nL cc pc L (vI b :: vI a :: st) mu := by
  subst hn
  intro F H locs ls hP hS hl
  exact lv_idiv F.1 F.2.1 hd hz (k F H locs ls hP hS hl)
theorem o_irem {a b : Int32} (hd : decode cc pc = .ok (.irem, 1)) (hn : pc + 1 = pc') (hz : ¬ b = 0) (k : WA X g own nL cc pc' L (vI (a - a / b * b) :: st) mu) : WA X g own nL cc pc L (vI b :: vI a :: st) mu := by
  subst hn
  intro F H locs ls hP hS hl
  exact lv_irem F.1 F.2.1 hd hz (k F H locs ls hP hS hl)
theorem o_land {a b : Int64} (hd : decode cc pc = .ok (.land, 1)) (hn : pc + 1 = pc') (k : WA X g own nL cc pc' L (vJ (a &&& b) :: st) mu) : WA X g own nL cc pc L (vJ b :: vJ a :: st) mu := by
  subst hn
  intro F H locs ls hP hS hl
  exact lv_land F.1 F.2.1 hd  (k F H locs ls hP hS hl)
theorem o_lor {a b : Int64} (hd : decode cc pc = .ok (.lor, 1)) (hn : pc + 1 = pc') (k : WA X g own nL cc pc' L (vJ (a ||| b) :: st) mu) : WA X g own nL cc pc L (vJ b :: vJ a :: st) mu := by
  subst hn
  intro F H locs ls hP hS hl
  exact lv_lor F.1 F.2.1 hd  (k F H locs ls hP hS hl)
theorem o_ladd {a b : Int64} (hd : decode cc pc = .ok (.ladd, 1)) (hn : pc + 1 = pc') (k : WA X g own nL cc pc' L (vJ (a + b) :: st) mu) : WA X g own nL cc pc L (vJ b :: vJ a :: st) mu := by
  subst hn
  intro F H locs ls hP hS hl
  exact lv_ladd F.1 F.2.1 hd  (k F H locs ls hP hS hl)
theorem o_lshl {a : Int64} {b : Int32} (hd : decode cc pc = .ok (.lshl, 1)) (hn : pc + 1 = pc') (k : WA X g own nL cc pc' L (vJ (a <<< (b.toInt64 &&& 63)) :: st) mu) : WA X g own nL cc pc L (vI b :: vJ a :: st) mu := by
  subst hn
  intro F H locs ls hP hS hl
  exact lv_lshl F.1 F.2.1 hd rfl (k F H locs ls hP hS hl)
theorem o_lshr {a : Int64} {b : Int32} (hd : decode cc pc = .ok (.lshr, 1)) (hn : pc + 1 = pc') (k : WA X g own nL cc pc' L (vJ (a >>> (b.toInt64 &&& 63)) :: st) mu) : WA X g own nL cc pc L (vI b :: vJ a :: st) mu := by
  subst hn
  intro F H locs ls hP hS hl
  exact lv_lshr F.1 F.2.1 hd rfl (k F H locs ls hP hS hl)
theorem o_lushr {a : Int64} {b : Int32} (hd : decode cc pc = .ok (.lushr, 1)) (hn : pc + 1 = pc') (k : WA X g own nL cc pc' L (vJ (a.toUInt64 >>> (b.toInt64.toUInt64 &&& Int64.toUInt64 63)).toInt64 :: st) mu) : WA X g own nL cc pc L (vI b :: vJ a :: st) mu := by
  subst hn
  intro F H locs ls hP hS hl
  exact lv_lushr F.1 F.2.1 hd rfl (k F H locs ls hP hS hl)
theorem o_i2l {a : Int32} (hd : decode cc pc = .ok (.i2l, 1)) (hn : pc + 1 = pc') (k : WA X g own nL cc pc' L (vJ a.toInt64 :: st) mu) : WA X g own nL cc pc L (vI a :: st) mu := by
  subst hn
  intro F H locs ls hP hS hl
  exact lv_i2l F.1 F.2.1 hd rfl (k F H locs ls hP hS hl)
theorem o_l2i {a : Int64} (hd : decode cc pc = .ok (.l2i, 1)) (hn : pc + 1 = pc') (k : WA X g own nL cc pc' L (vI a.toInt32 :: st) mu) : WA X g own nL cc pc L (vJ a :: st) mu := by
  subst hn
  intro F H locs ls hP hS hl
  exact lv_l2i F.1 F.2.1 hd rfl (k F H locs ls hP hS hl)
theorem o_i2b {a : Int32} (hd : decode cc pc = .ok (.i2b, 1)) (hn : pc + 1 = pc') (k : WA X g own nL cc pc' L (vI a.toInt8.toInt32 :: st) mu) : WA X g own nL cc pc L (vI a :: st) mu := by
  subst hn
  intro F H locs ls hP hS hl
  exact lv_i2b F.1 F.2.1 hd rfl (k F H locs ls hP hS hl)
theorem o_i2s {a : Int32} (hd : decode cc pc = .ok (.i2s, 1)) (hn : pc + 1 = pc') (k : WA X g own nL cc pc' L (vI a.toInt16.toInt32 :: st) mu) : WA X g own nL cc pc L (vI a :: st) mu := by
  subst hn
  intro F H locs ls hP hS hl
  exact lv_i2s F.1 F.2.1 hd rfl (k F H locs ls hP hS hl)
theorem o_lcmp {a b : Int64} (hd : decode cc pc = .ok (.lcmp, 1)) (hn : pc + 1 = pc') (k : WA X g own nL cc pc' L (vI (lg_cmp a b) :: st) mu) : WA X g own nL cc pc L (vJ b :: vJ a :: st) mu := by
  subst hn
  intro F H locs ls hP hS hl
  exact W.lcmp F.1 F.2.1 hd  (k F H locs ls hP hS hl)
theorem o_iconst {n : Int} {v : Int32} (hd : decode cc pc = .ok (.iconst n, 1)) (hn : pc + 1 = pc') (hv : Int32.ofInt n = v) (k : WA X g own nL cc pc' L (vI v :: st) mu) : WA X g own nL cc pc L (st) mu := by
  subst hn
  intro F H locs ls hP hS hl
  exact lv_iconst F.1 F.2.1 hd hv (k F H locs ls hP hS hl)
theorem o_bipush {n : Int} {v : Int32} (hd : decode cc pc = .ok (.bipush n, 2)) (hn : pc + 2 = pc') (hv : (Int8.ofInt n).toInt32 = v) (k : WA X g own nL cc pc' L (vI v :: st) mu) : WA X g own nL cc pc L (st) mu := by
  subst hn
  intro F H locs ls hP hS hl
  exact lv_bipush F.1 F.2.1 hd hv (k F H locs ls hP hS hl)
theorem o_sipush {n : Int} {v : Int32} (hd : decode cc pc = .ok (.sipush n, 3)) (hn : pc + 3 = pc') (hv : (Int16.ofInt n).toInt32 = v) (k : WA X g own nL cc pc' L (vI v :: st) mu) : WA X g own nL cc pc L (st) mu := by
  subst hn
  intro F H locs ls hP hS hl
  exact lv_sipush F.1 F.2.1 hd hv (k F H locs ls hP hS hl)
theorem o_lconst {n : Fin 2} {v : Int64} (hd : decode cc pc = .ok (.lconst n, 1)) (hn : pc + 1 = pc') (hv : Int64.ofNat (n : Nat) = v) (k : WA X g own nL cc pc' L (vJ v :: st) mu) : WA X g own nL cc pc L (st) mu := by
  subst hn
  intro F H locs ls hP hS hl
  exact lv_lconst F.1 F.2.1 hd hv (k F H locs ls hP hS hl)
theorem o_ldc {ix : Nat} {v : Int32} (hd : decode cc pc = .ok (.ldc ix, 2)) (hn : pc + 2 = pc') (hc : Cond.constant own ix v ∈ tb0) (k : WA X g own nL cc pc' L (vI v :: st) mu) : WA X g own nL cc pc L st mu := by
  subst hn
  intro F H locs ls hP hS hl
  exact lv_ldc F.1 F.2.1 F.2.2.2.1 (F.2.2.2.2.1 _ hc) hd (k F H locs ls hP hS hl)
theorem o_ldcw {ix : Nat} {v : Int32} (hd : decode cc pc = .ok (.ldc_w ix, 3)) (hn : pc + 3 = pc') (hc : Cond.constant own ix v ∈ tb0) (k : WA X g own nL cc pc' L (vI v :: st) mu) : WA X g own nL cc pc L st mu := by
  subst hn
  intro F H locs ls hP hS hl
  exact lv_ldcw F.1 F.2.1 F.2.2.2.1 (F.2.2.2.2.1 _ hc) hd (k F H locs ls hP hS hl)
theorem o_ldc2 {ix : Nat} {v : Int64} (hd : decode cc pc = .ok (.ldc2_w ix, 3)) (hn : pc + 3 = pc') (hc : Cond.constantLong own ix v ∈ tb0) (k : WA X g own nL cc pc' L (vJ v :: st) mu) : WA X g own nL cc pc L st mu := by
  subst hn
  intro F H locs ls hP hS hl
  exact lv_ldc2 F.1 F.2.1 F.2.2.2.1 (F.2.2.2.2.1 _ hc) hd (k F H locs ls hP hS hl)
theorem cat1 {h : Nat → Nat} {v : AV} (hc : cat2 v = false) : (cv h v).category = 1 := by
  rcases v with x | x | k | a
  · rfl
  · cases hc
  · rfl
  · rfl
theorem o_pop {v : AV} (hd : decode cc pc = .ok (.pop, 1)) (hn : pc + 1 = pc') (hc : cat2 v = false) (k : WA X g own nL cc pc' L (st) mu) : WA X g own nL cc pc L (v :: st) mu := by
  subst hn
  intro F H locs ls hP hS hl
  exact lv_pop F.1 F.2.1 hd (cat1 hc) (k F H locs ls hP hS hl)
theorem o_dup {v : AV} (hd : decode cc pc = .ok (.dup, 1)) (hn : pc + 1 = pc') (hc : cat2 v = false) (k : WA X g own nL cc pc' L (v :: v :: st) mu) : WA X g own nL cc pc L (v :: st) mu := by
  subst hn
  intro F H locs ls hP hS hl
  exact lv_dup F.1 F.2.1 hd (cat1 hc) (k F H locs ls hP hS hl)
theorem o_dup2 {v w : AV} (hd : decode cc pc = .ok (.dup2, 1)) (hn : pc + 1 = pc') (hc : cat2 v = false) (hc2 : cat2 w = false) (k : WA X g own nL cc pc' L (v :: w :: v :: w :: st) mu) : WA X g own nL cc pc L (v :: w :: st) mu := by
  subst hn
  intro F H locs ls hP hS hl
  exact lv_dup2_11 F.1 F.2.1 hd (cat1 hc) (cat1 hc2) (k F H locs ls hP hS hl)
theorem o_iload {i : Nat} {x : Int32} (hd : decode cc pc = .ok (.iload i, 2)) (hn : pc + 2 = pc') (hg : getL i L = some (vI x)) (k : WA X g own nL cc pc' L (vI x :: st) mu) : WA X g own nL cc pc L st mu := by
  subst hn
  intro F H locs ls hP hS hl
  exact lv_iload F.1 F.2.1 hd (lv_get hl hg) (k F H locs ls hP hS hl)
theorem o_iload_n {i : Nat} {x : Int32} {kk : Fin 4} (hd : decode cc pc = .ok (.iload_n kk, 1)) (hn : pc + 1 = pc') (hi : (kk : Nat) = i) (hg : getL i L = some (vI x)) (k : WA X g own nL cc pc' L (vI x :: st) mu) : WA X g own nL cc pc L st mu := by
  subst hn
  intro F H locs ls hP hS hl
  exact lv_iload_n F.1 F.2.1 hd hi (lv_get hl hg) (k F H locs ls hP hS hl)
theorem o_lload {i : Nat} {x : Int64} (hd : decode cc pc = .ok (.lload i, 2)) (hn : pc + 2 = pc') (hg : getL i L = some (vJ x)) (k : WA X g own nL cc pc' L (vJ x :: st) mu) : WA X g own nL cc pc L st mu := by
  subst hn
  intro F H locs ls hP hS hl
  exact lv_lload F.1 F.2.1 hd (lv_get hl hg) (k F H locs ls hP hS hl)
theorem o_lload_n {i : Nat} {x : Int64} {kk : Fin 4} (hd : decode cc pc = .ok (.lload_n kk, 1)) (hn : pc + 1 = pc') (hi : (kk : Nat) = i) (hg : getL i L = some (vJ x)) (k : WA X g own nL cc pc' L (vJ x :: st) mu) : WA X g own nL cc pc L st mu := by
  subst hn
  intro F H locs ls hP hS hl
  exact lv_lload_n F.1 F.2.1 hd hi (lv_get hl hg) (k F H locs ls hP hS hl)
theorem o_aload {i : Nat} {x : Nat} (hd : decode cc pc = .ok (.aload i, 2)) (hn : pc + 2 = pc') (hg : getL i L = some (vC x)) (k : WA X g own nL cc pc' L (vC x :: st) mu) : WA X g own nL cc pc L st mu := by
  subst hn
  intro F H locs ls hP hS hl
  exact lv_aload F.1 F.2.1 hd (lv_get hl hg) (k F H locs ls hP hS hl)
theorem o_aload_n {i : Nat} {x : Nat} {kk : Fin 4} (hd : decode cc pc = .ok (.aload_n kk, 1)) (hn : pc + 1 = pc') (hi : (kk : Nat) = i) (hg : getL i L = some (vC x)) (k : WA X g own nL cc pc' L (vC x :: st) mu) : WA X g own nL cc pc L st mu := by
  subst hn
  intro F H locs ls hP hS hl
  exact lv_aload_n F.1 F.2.1 hd hi (lv_get hl hg) (k F H locs ls hP hS hl)
theorem o_aloadR {i : Nat} {x : Nat} (hd : decode cc pc = .ok (.aload i, 2)) (hn : pc + 2 = pc') (hg : getL i L = some (vR x)) (k : WA X g own nL cc pc' L (vR x :: st) mu) : WA X g own nL cc pc L st mu := by
  subst hn
  intro F H locs ls hP hS hl
  exact lv_aload F.1 F.2.1 hd (lv_get hl hg) (k F H locs ls hP hS hl)
theorem o_aload_nR {i : Nat} {x : Nat} {kk : Fin 4} (hd : decode cc pc = .ok (.aload_n kk, 1)) (hn : pc + 1 = pc') (hi : (kk : Nat) = i) (hg : getL i L = some (vR x)) (k : WA X g own nL cc pc' L (vR x :: st) mu) : WA X g own nL cc pc L st mu := by
  subst hn
  intro F H locs ls hP hS hl
  exact lv_aload_n F.1 F.2.1 hd hi (lv_get hl hg) (k F H locs ls hP hS hl)
theorem o_istore {i : Nat} {x : Int32} (hd : decode cc pc = .ok (.istore i, 2)) (hn : pc + 2 = pc') (hi2 : i < nL) (hc : cleanL i L = true) (hL : stL i (vI x) L = L') (k : WA X g own nL cc pc' L' st mu) : WA X g own nL cc pc L (vI x :: st) mu := by
  subst hn
  subst hL
  intro F H locs ls hP hS hl
  exact lv_istore F.1 F.2.1 hd hl hi2 rfl (fun ls2 hl2 => k F H locs ls2 hP hS (lv_stL (v := vI x) hc hl2))
theorem o_istore_n {i : Nat} {x : Int32} {kk : Fin 4} (hd : decode cc pc = .ok (.istore_n kk, 1)) (hn : pc + 1 = pc') (hi : (kk : Nat) = i) (hi2 : i < nL) (hc : cleanL i L = true) (hL : stL i (vI x) L = L') (k : WA X g own nL cc pc' L' st mu) : WA X g own nL cc pc L (vI x :: st) mu := by
  subst hn
  subst hL
  intro F H locs ls hP hS hl
  exact lv_istore_n F.1 F.2.1 hd hi hl hi2 rfl (fun ls2 hl2 => k F H locs ls2 hP hS (lv_stL (v := vI x) hc hl2))
theorem o_astore {i : Nat} {x : Nat} (hd : decode cc pc = .ok (.astore i, 2)) (hn : pc + 2 = pc') (hi2 : i < nL) (hc : cleanL i L = true) (hL : stL i (vC x) L = L') (k : WA X g own nL cc pc' L' st mu) : WA X g own nL cc pc L (vC x :: st) mu := by
  subst hn
  subst hL
  intro F H locs ls hP hS hl
  exact lv_astore F.1 F.2.1 hd hl hi2 rfl (fun ls2 hl2 => k F H locs ls2 hP hS (lv_stL (v := vC x) hc hl2))
theorem o_astore_n {i : Nat} {x : Nat} {kk : Fin 4} (hd : decode cc pc = .ok (.astore_n kk, 1)) (hn : pc + 1 = pc') (hi : (kk : Nat) = i) (hi2 : i < nL) (hc : cleanL i L = true) (hL : stL i (vC x) L = L') (k : WA X g own nL cc pc' L' st mu) : WA X g own nL cc pc L (vC x :: st) mu := by
  subst hn
  subst hL
  intro F H locs ls hP hS hl
  exact lv_astore_n F.1 F.2.1 hd hi hl hi2 rfl (fun ls2 hl2 => k F H locs ls2 hP hS (lv_stL (v := vC x) hc hl2))
theorem o_iinc {i : Nat} {n : Int} {x v : Int32} (hd : decode cc pc = .ok (.iinc i n, 3)) (hn : pc + 3 = pc') (hg : getL i L = some (vI x)) (hv : x + Int32.ofInt n = v) (hi2 : i < nL) (hc : cleanL i L = true) (hL : stL i (vI v) L = L') (k : WA X g own nL cc pc' L' st mu) : WA X g own nL cc pc L st mu := by
  subst hn
  subst hL
  intro F H locs ls hP hS hl
  obtain ⟨kq, hkq⟩ := List.getElem?_of_mem (List.mem_map.mpr ⟨(i, vI x), getL_mem hg, rfl⟩ : (i, cv (gh g) (vI x)) ∈ mpL (gh g) L)
  exact lv_iinc F.1 F.2.1 hd hl (k := kq) hkq hv hi2 rfl (fun ls2 hl2 => k F H locs ls2 hP hS (lv_stL (v := vI v) hc hl2))
theorem o_goto {off : Int} {tgt : Nat} (hd : decode cc pc = .ok (.goto off, 3)) (ht : (pc : Int) + off = (tgt : Int)) (k : WA X g own nL cc tgt L st mu) : WA X g own nL cc pc L st mu := by
  intro F H locs ls hP hS hl
  exact lv_goto F.1 F.2.1 hd ht (k F H locs ls hP hS hl)
theorem o_if_eq {a : Int32} {off : Int} {tgt : Nat} (hd : decode cc pc = .ok (.ifCond .eq off, 3)) (ht : (pc : Int) + off = (tgt : Int)) (hn : pc + 3 = pc') (kt : a = 0 → WA X g own nL cc tgt L st mu) (kf : ¬ a = 0 → WA X g own nL cc pc' L st mu) : WA X g own nL cc pc L (vI a :: st) mu := by
  subst hn
  intro F H locs ls hP hS hl
  exact lv_if_eq F.1 F.2.1 hd ht (fun q => kt q F H locs ls hP hS hl) (fun q => kf q F H locs ls hP hS hl)
theorem o_icmp_eq {a b : Int32} {off : Int} {tgt : Nat} (hd : decode cc pc = .ok (.if_icmp .eq off, 3)) (ht : (pc : Int) + off = (tgt : Int)) (hn : pc + 3 = pc') (kt : a = b → WA X g own nL cc tgt L st mu) (kf : ¬ a = b → WA X g own nL cc pc' L st mu) : WA X g own nL cc pc L (vI b :: vI a :: st) mu := by
  subst hn
  intro F H locs ls hP hS hl
  exact lv_icmp_eq F.1 F.2.1 hd ht (fun q => kt q F H locs ls hP hS hl) (fun q => kf q F H locs ls hP hS hl)
theorem o_if_ne {a : Int32} {off : Int} {tgt : Nat} (hd : decode cc pc = .ok (.ifCond .ne off, 3)) (ht : (pc : Int) + off = (tgt : Int)) (hn : pc + 3 = pc') (kt : ¬ a = 0 → WA X g own nL cc tgt L st mu) (kf : a = 0 → WA X g own nL cc pc' L st mu) : WA X g own nL cc pc L (vI a :: st) mu := by
  subst hn
  intro F H locs ls hP hS hl
  exact lv_if_ne F.1 F.2.1 hd ht (fun q => kt q F H locs ls hP hS hl) (fun q => kf q F H locs ls hP hS hl)
theorem o_icmp_ne {a b : Int32} {off : Int} {tgt : Nat} (hd : decode cc pc = .ok (.if_icmp .ne off, 3)) (ht : (pc : Int) + off = (tgt : Int)) (hn : pc + 3 = pc') (kt : ¬ a = b → WA X g own nL cc tgt L st mu) (kf : a = b → WA X g own nL cc pc' L st mu) : WA X g own nL cc pc L (vI b :: vI a :: st) mu := by
  subst hn
  intro F H locs ls hP hS hl
  exact lv_icmp_ne F.1 F.2.1 hd ht (fun q => kt q F H locs ls hP hS hl) (fun q => kf q F H locs ls hP hS hl)
theorem o_if_lt {a : Int32} {off : Int} {tgt : Nat} (hd : decode cc pc = .ok (.ifCond .lt off, 3)) (ht : (pc : Int) + off = (tgt : Int)) (hn : pc + 3 = pc') (kt : a < 0 → WA X g own nL cc tgt L st mu) (kf : ¬ a < 0 → WA X g own nL cc pc' L st mu) : WA X g own nL cc pc L (vI a :: st) mu := by
  subst hn
  intro F H locs ls hP hS hl
  exact lv_if_lt F.1 F.2.1 hd ht (fun q => kt q F H locs ls hP hS hl) (fun q => kf q F H locs ls hP hS hl)
theorem o_icmp_lt {a b : Int32} {off : Int} {tgt : Nat} (hd : decode cc pc = .ok (.if_icmp .lt off, 3)) (ht : (pc : Int) + off = (tgt : Int)) (hn : pc + 3 = pc') (kt : a < b → WA X g own nL cc tgt L st mu) (kf : ¬ a < b → WA X g own nL cc pc' L st mu) : WA X g own nL cc pc L (vI b :: vI a :: st) mu := by
  subst hn
  intro F H locs ls hP hS hl
  exact lv_icmp_lt F.1 F.2.1 hd ht (fun q => kt q F H locs ls hP hS hl) (fun q => kf q F H locs ls hP hS hl)
theorem o_if_ge {a : Int32} {off : Int} {tgt : Nat} (hd : decode cc pc = .ok (.ifCond .ge off, 3)) (ht : (pc : Int) + off = (tgt : Int)) (hn : pc + 3 = pc') (kt : 0 ≤ a → WA X g own nL cc tgt L st mu) (kf : ¬ 0 ≤ a → WA X g own nL cc pc' L st mu) : WA X g own nL cc pc L (vI a :: st) mu := by
  subst hn
  intro F H locs ls hP hS hl
  exact lv_if_ge F.1 F.2.1 hd ht (fun q => kt q F H locs ls hP hS hl) (fun q => kf q F H locs ls hP hS hl)
theorem o_icmp_ge {a b : Int32} {off : Int} {tgt : Nat} (hd : decode cc pc = .ok (.if_icmp .ge off, 3)) (ht : (pc : Int) + off = (tgt : Int)) (hn : pc + 3 = pc') (kt : b ≤ a → WA X g own nL cc tgt L st mu) (kf : ¬ b ≤ a → WA X g own nL cc pc' L st mu) : WA X g own nL cc pc L (vI b :: vI a :: st) mu := by
  subst hn
  intro F H locs ls hP hS hl
  exact lv_icmp_ge F.1 F.2.1 hd ht (fun q => kt q F H locs ls hP hS hl) (fun q => kf q F H locs ls hP hS hl)
theorem o_if_gt {a : Int32} {off : Int} {tgt : Nat} (hd : decode cc pc = .ok (.ifCond .gt off, 3)) (ht : (pc : Int) + off = (tgt : Int)) (hn : pc + 3 = pc') (kt : 0 < a → WA X g own nL cc tgt L st mu) (kf : ¬ 0 < a → WA X g own nL cc pc' L st mu) : WA X g own nL cc pc L (vI a :: st) mu := by
  subst hn
  intro F H locs ls hP hS hl
  exact lv_if_gt F.1 F.2.1 hd ht (fun q => kt q F H locs ls hP hS hl) (fun q => kf q F H locs ls hP hS hl)
theorem o_icmp_gt {a b : Int32} {off : Int} {tgt : Nat} (hd : decode cc pc = .ok (.if_icmp .gt off, 3)) (ht : (pc : Int) + off = (tgt : Int)) (hn : pc + 3 = pc') (kt : b < a → WA X g own nL cc tgt L st mu) (kf : ¬ b < a → WA X g own nL cc pc' L st mu) : WA X g own nL cc pc L (vI b :: vI a :: st) mu := by
  subst hn
  intro F H locs ls hP hS hl
  exact lv_icmp_gt F.1 F.2.1 hd ht (fun q => kt q F H locs ls hP hS hl) (fun q => kf q F H locs ls hP hS hl)
theorem o_if_le {a : Int32} {off : Int} {tgt : Nat} (hd : decode cc pc = .ok (.ifCond .le off, 3)) (ht : (pc : Int) + off = (tgt : Int)) (hn : pc + 3 = pc') (kt : a ≤ 0 → WA X g own nL cc tgt L st mu) (kf : ¬ a ≤ 0 → WA X g own nL cc pc' L st mu) : WA X g own nL cc pc L (vI a :: st) mu := by
  subst hn
  intro F H locs ls hP hS hl
  exact lv_if_le F.1 F.2.1 hd ht (fun q => kt q F H locs ls hP hS hl) (fun q => kf q F H locs ls hP hS hl)
theorem o_icmp_le {a b : Int32} {off : Int} {tgt : Nat} (hd : decode cc pc = .ok (.if_icmp .le off, 3)) (ht : (pc : Int) + off = (tgt : Int)) (hn : pc + 3 = pc') (kt : a ≤ b → WA X g own nL cc tgt L st mu) (kf : ¬ a ≤ b → WA X g own nL cc pc' L st mu) : WA X g own nL cc pc L (vI b :: vI a :: st) mu := by
  subst hn
  intro F H locs ls hP hS hl
  exact lv_icmp_le F.1 F.2.1 hd ht (fun q => kt q F H locs ls hP hS hl) (fun q => kf q F H locs ls hP hS hl)
theorem o_tableIn {dflt lo hi : Int} {offs : Array Int} {len : Nat} {x : Int32} {off : Int} {tgt : Nat} (hd : decode cc pc = .ok (.tableswitch dflt lo hi offs, len)) (h1 : ¬ x.toInt < lo) (h2 : ¬ hi < x.toInt) (ho : offs[(x.toInt - lo).toNat]? = some off) (ht : (pc : Int) + off = (tgt : Int)) (k : WA X g own nL cc tgt L st mu) : WA X g own nL cc pc L (vI x :: st) mu := by
  intro F H locs ls hP hS hl
  exact lv_tableIn F.1 F.2.1 hd h1 h2 ho ht (k F H locs ls hP hS hl)
theorem o_tableOut {dflt lo hi : Int} {offs : Array Int} {len : Nat} {x : Int32} {tgt : Nat} (hd : decode cc pc = .ok (.tableswitch dflt lo hi offs, len)) (h : x.toInt < lo ∨ hi < x.toInt) (ht : (pc : Int) + dflt = (tgt : Int)) (k : WA X g own nL cc tgt L st mu) : WA X g own nL cc pc L (vI x :: st) mu := by
  intro F H locs ls hP hS hl
  exact lv_tableOut F.1 F.2.1 hd h ht (k F H locs ls hP hS hl)
theorem o_lookup {dflt : Int} {ps : Array (Int × Int)} {len : Nat} {x : Int32} {off : Int} {tgt : Nat} (hd : decode cc pc = .ok (.lookupswitch dflt ps, len)) (hp : (ps.toList.zip (ps.toList.drop 1)).all (fun (a, next) => a.1 < next.1) = true) (ho : Op.lookupswitch.offset ps.toList dflt x.toInt = off) (ht : (pc : Int) + off = (tgt : Int)) (k : WA X g own nL cc tgt L st mu) : WA X g own nL cc pc L (vI x :: st) mu := by
  intro F H locs ls hP hS hl
  exact lv_lookup F.1 F.2.1 hd hp ho ht (k F H locs ls hP hS hl)
/-! ===== fields ===== -/
theorem wd_ob {k ci : Nat} {fs : List (Option Nat)} (hk : k < NC) (hs : sh k = .inl (ci, fs)) : (wd (gh g) (gc g) mu)[k]? = some (gh g k, .inr (ci, mkF (gh g) (mu k) 0 fs)) := by
  rw [wd_at hk, hs]
  rfl
/-- what a class and a link of it need -/
def CLk (own C : String) (T : u_T) (N ci i ix : Nat) (nest : Bool) : Prop :=
  vwCl[ci]? = some (C, T, N) ∧ (∀ w ∈ u_ws C T N, w ∈ tb0) ∧ i < N ∧ (T i).1 = C ∧ (nest = false → Cond.fieldLink own ix C (T i).2.1 (T i).2.2.1 ∈ tb0) ∧ (nest = true → ∃ host, Cond.fieldLinkNest own ix C (T i).2.1 (T i).2.2.1 host ∈ nw0)
theorem o_getI {C : String} {T : u_T} {N ci i ix k : Nat} {fs : List (Option Nat)} {nest : Bool} (cl : CLk own C T N ci i ix nest) (hd : decode cc pc = .ok (.getfield ix, 3)) (hn : pc + 3 = pc') (hk : k < NC) (hs : sh k = .inl (ci, fs)) (hi : fs[i]? = some none) (kk : WA X g own nL cc pc' L (vI (mu k i) :: st) mu) : WA X g own nL cc pc L (vC k :: st) mu := by
  subst hn
  intro F H locs ls hP hS hl
  obtain ⟨c1, c2, c3, c4, c5, c6⟩ := cl
  obtain ⟨hx, hb, hml, hown, hts, hnw, hK, hDD, hA, hSF⟩ := id F
  have hv : (mkF (gh g) (mu k) 0 fs)[i]? = some (.int (mu k i)) := by
    have := mkF_int (h := gh g) (f := mu k) fs 0 i hi
    rw [Nat.zero_add] at this
    exact this
  cases nest with
  | false => exact va_get (D := gD g) (ci := ci) (C := C) (T := T) (N := N) hx hb hts c2 hown hK hP k (wd_ob hk hs) c1 i c3 (hts _ (c5 rfl)) (fun _ h9 => by rw [c4] at h9; exact h9) hv hd (kk F H locs ls hP hS hl)
  | true =>
    obtain ⟨host, hh⟩ := c6 rfl
    exact va_getN (D := gD g) (ci := ci) (C := C) (T := T) (N := N) hx hb hts c2 hown hK hP k (wd_ob hk hs) c1 i c3 (va_Nw.use (nest_on rfl) (hnw _ hh)) (fun _ h9 => by rw [c4] at h9; exact h9) hv hd (kk F H locs ls hP hS hl)
theorem o_getC {C : String} {T : u_T} {N ci i ix k q : Nat} {fs : List (Option Nat)} {nest : Bool} (cl : CLk own C T N ci i ix nest) (hd : decode cc pc = .ok (.getfield ix, 3)) (hn : pc + 3 = pc') (hk : k < NC) (hs : sh k = .inl (ci, fs)) (hi : fs[i]? = some (some q)) (kk : WA X g own nL cc pc' L (vC q :: st) mu) : WA X g own nL cc pc L (vC k :: st) mu := by
  subst hn
  intro F H locs ls hP hS hl
  obtain ⟨c1, c2, c3, c4, c5, c6⟩ := cl
  obtain ⟨hx, hb, hml, hown, hts, hnw, hK, hDD, hA, hSF⟩ := id F
  have hv : (mkF (gh g) (mu k) 0 fs)[i]? = some (.ref (gh g q)) := mkF_ref (h := gh g) (f := mu k) fs 0 i hi
  cases nest with
  | false => exact va_get (D := gD g) (ci := ci) (C := C) (T := T) (N := N) hx hb hts c2 hown hK hP k (wd_ob hk hs) c1 i c3 (hts _ (c5 rfl)) (fun _ h9 => by rw [c4] at h9; exact h9) hv hd (kk F H locs ls hP hS hl)
  | true =>
    obtain ⟨host, hh⟩ := c6 rfl
    exact va_getN (D := gD g) (ci := ci) (C := C) (T := T) (N := N) hx hb hts c2 hown hK hP k (wd_ob hk hs) c1 i c3 (va_Nw.use (nest_on rfl) (hnw _ hh)) (fun _ h9 => by rw [c4] at h9; exact h9) hv hd (kk F H locs ls hP hS hl)
def upF (mu : Mu) (k i : Nat) (v : Int32) : Mu := upM mu k (upd (mu k) i v)
/-- what a store into a field needs beside -/
def CLp (T : u_T) (ty0 : Nat → FieldType) (N i : Nat) (ty : FieldType) : Prop :=
  (∀ k, k < N → parseFieldDescriptor (T k).2.2.1 = some (ty0 k)) ∧ (∀ a, a < N → ∀ b, b < N → a ≠ b → (T a).2.1 ≠ (T b).2.1) ∧ (T i).2.2.2 = false ∧ parseFieldDescriptor (T i).2.2.1 = some ty
theorem o_put {C : String} {T : u_T} {ty0 : Nat → FieldType} {ty : FieldType} {N ci i ix k : Nat} {fs : List (Option Nat)} {v : Int32} (cl : CLk own C T N ci i ix false) (cp : CLp T ty0 N i ty) (hd : decode cc pc = .ok (.putfield ix, 3)) (hn : pc + 3 = pc') (hk : k < NC) (hs : sh k = .inl (ci, fs)) (hi : fs[i]? = some none) (hfit : narrow ty (.int v) = .int v ∧ fits ty (.int v) = true) (kk : WA X g own nL cc pc' L st (upF mu k i v)) : WA X g own nL cc pc L (vI v :: vC k :: st) mu := by
  subst hn
  intro F H locs ls hP hS hl
  obtain ⟨c1, c2, c3, c4, c5, c6⟩ := cl
  obtain ⟨p1, p2, p3, p4⟩ := cp
  obtain ⟨hx, hb, hml, hown, hts, hnw, hK, hDD, hA, hSF⟩ := id F
  have he : (wd (gh g) (gc g) mu).set k (gh g k, .inr (ci, (mkF (gh g) (mu k) 0 fs).set i (.int v))) = wd (gh g) (gc g) (upF mu k i v) := by
    rw [mkF_set fs 0 i hi, Nat.zero_add]
    have := wd_set (h := gh g) (cA := gc g) (mu := mu) hk (upd (mu k) i v)
    rw [hs] at this
    exact this
  refine va_put (D := gD g) (ci := ci) (v := .int v) (ty := ty) (C := C) (T := T) (N := N) hx hb hts c2 ty0 p1 p2 hown hK hP (wd_D hDD mu) hS k (wd_ob hk hs) c1 i c3 (hts _ (c5 rfl)) (fun _ h9 => by rw [c4] at h9; exact h9) p3 p4 hfit.1 hfit.2 (by rw [mkF_len]; exact (List.getElem?_eq_some_iff.mp hi).1) hd (fun H1 locs1 hP1 hD1 hS1 => ?_)
  rw [he] at hP1
  exact kk F H1 locs1 ls hP1 hS1 hl
theorem fitI {v : Int32} : narrow .int (.int v) = .int v ∧ fits .int (.int v) = true := ⟨rfl, rfl⟩
theorem fitZ {v : Int32} (h : v = 0 ∨ v = 1) : narrow .boolean (.int v) = .int v ∧ fits .boolean (.int v) = true := by
  rcases h with rfl | rfl <;> exact ⟨by decide, by decide⟩
/-! ===== rows of numbers ===== -/
theorem wd_ar {k n : Nat} (hk : k < NC) (hs : sh k = .inr (.inl n)) : (wd (gh g) (gc g) mu)[k]? = some (gh g k, .inl (gc g k, n, .inl (mu k))) := by
  rw [wd_at hk, hs]
  rfl
theorem o_iald {k n : Nat} {i : Int32} (hd : decode cc pc = .ok (.iaload, 1)) (hn : pc + 1 = pc') (hk : k < NC) (hs : sh k = .inr (.inl n)) (ht : aty k = .int) (hin : vp_in i n) (kk : WA X g own nL cc pc' L (vI (mu k i.toNatClampNeg) :: st) mu) : WA X g own nL cc pc L (vI i :: vC k :: st) mu := by
  subst hn
  intro F H locs ls hP hS hl
  obtain ⟨hx, hb, hml, hown, hts, hnw, hK, hDD, hA, hSF⟩ := id F
  exact va_iald hx hb hK hP k k (wd_ar hk hs) (by rw [tyz_at hk, ht]) hin hd (kk F H locs ls hP hS hl)
theorem wd_arset {k n : Nat} (hk : k < NC) (hs : sh k = .inr (.inl n)) (f : Nat → Int32) : (wd (gh g) (gc g) mu).set k (gh g k, .inl (gc g k, n, .inl f)) = wd (gh g) (gc g) (upM mu k f) := by
  have := wd_set (h := gh g) (cA := gc g) (mu := mu) hk f
  rw [hs] at this
  exact this
theorem o_iast {k n : Nat} {i x : Int32} (hd : decode cc pc = .ok (.iastore, 1)) (hn : pc + 1 = pc') (hk : k < NC) (hs : sh k = .inr (.inl n)) (ht : aty k = .int) (hin : vp_in i n) (kk : WA X g own nL cc pc' L st (upF mu k i.toNatClampNeg x)) : WA X g own nL cc pc L (vI x :: vI i :: vC k :: st) mu := by
  subst hn
  intro F H locs ls hP hS hl
  obtain ⟨hx, hb, hml, hown, hts, hnw, hK, hDD, hA, hSF⟩ := id F
  refine va_iast hx hb hK hP (wd_D hDD mu) hS k k (wd_ar hk hs) (by rw [tyz_at hk, ht]) hin hd (fun H1 locs1 hP1 hD1 hS1 => ?_)
  rw [wd_arset hk hs] at hP1
  exact kk F H1 locs1 ls hP1 hS1 hl
theorem o_zald {k n : Nat} {i : Int32} (hd : decode cc pc = .ok (.baload, 1)) (hn : pc + 1 = pc') (hk : k < NC) (hs : sh k = .inr (.inl n)) (ht : aty k = .boolean) (hin : vp_in i n) (kk : WA X g own nL cc pc' L (vI (mu k i.toNatClampNeg) :: st) mu) : WA X g own nL cc pc L (vI i :: vC k :: st) mu := by
  subst hn
  intro F H locs ls hP hS hl
  obtain ⟨hx, hb, hml, hown, hts, hnw, hK, hDD, hA, hSF⟩ := id F
  exact va_zald hx hb hK hP k k (wd_ar hk hs) (by rw [tyz_at hk, ht]) hin hd (kk F H locs ls hP hS hl)
theorem narZ {x : Int32} (h : x = 0 ∨ x = 1) : vp_nar .boolean x = x := by
  rcases h with rfl | rfl <;> rfl
theorem o_zast {k n : Nat} {i x : Int32} (hd : decode cc pc = .ok (.bastore, 1)) (hn : pc + 1 = pc') (hk : k < NC) (hs : sh k = .inr (.inl n)) (ht : aty k = .boolean) (hin : vp_in i n) (hx1 : x = 0 ∨ x = 1) (kk : WA X g own nL cc pc' L st (upF mu k i.toNatClampNeg x)) : WA X g own nL cc pc L (vI x :: vI i :: vC k :: st) mu := by
  subst hn
  intro F H locs ls hP hS hl
  obtain ⟨hx, hb, hml, hown, hts, hnw, hK, hDD, hA, hSF⟩ := id F
  refine va_zast hx hb hK hP (wd_D hDD mu) hS k k (wd_ar hk hs) (by rw [tyz_at hk, ht]) hin hd (fun H1 locs1 hP1 hD1 hS1 => ?_)
  rw [wd_arset hk hs, narZ hx1] at hP1
  exact kk F H1 locs1 ls hP1 hS1 hl
theorem o_alen {k n : Nat} {v : Int32} (hd : decode cc pc = .ok (.arraylength, 1)) (hn : pc + 1 = pc') (hk : k < NC) (hs : sh k = .inr (.inl n)) (hv : Int32.ofNat n = v) (kk : WA X g own nL cc pc' L (vI v :: st) mu) : WA X g own nL cc pc L (vC k :: st) mu := by
  subst hn
  intro F H locs ls hP hS hl
  obtain ⟨hx, hb, hml, hown, hts, hnw, hK, hDD, hA, hSF⟩ := id F
  exact va_alen hx hb hK hP k k (wd_ar hk hs) (tyz_at hk) hv hd (kk F H locs ls hP hS hl)
theorem wd_qr {k n b : Nat} (hk : k < NC) (hs : sh k = .inr (.inr (n, b))) : (wd (gh g) (gc g) mu)[k]? = some (gh g k, .inl (gc g k, n, .inr (.inr (.inr (.inr (fun i => if i < n then some (gh g (b + i)) else none)))))) := by
  rw [wd_at hk, hs]
  rfl
theorem o_alenQ {k n b : Nat} {v : Int32} (hd : decode cc pc = .ok (.arraylength, 1)) (hn : pc + 1 = pc') (hk : k < NC) (hs : sh k = .inr (.inr (n, b))) (hv : Int32.ofNat n = v) (kk : WA X g own nL cc pc' L (vI v :: st) mu) : WA X g own nL cc pc L (vC k :: st) mu := by
  subst hn
  intro F H locs ls hP hS hl
  obtain ⟨hx, hb, hml, hown, hts, hnw, hK, hDD, hA, hSF⟩ := id F
  exact va_alen hx hb hK hP k k (wd_qr hk hs) (tyz_at hk) hv hd (kk F H locs ls hP hS hl)
theorem o_aald {k n b : Nat} {i : Int32} (hd : decode cc pc = .ok (.aaload, 1)) (hn : pc + 1 = pc') (hk : k < NC) (hs : sh k = .inr (.inr (n, b))) (ht : aty k = .array .int) (hin : vp_in i n) (kk : WA X g own nL cc pc' L (vC (b + i.toNatClampNeg) :: st) mu) : WA X g own nL cc pc L (vI i :: vC k :: st) mu := by
  subst hn
  intro F H locs ls hP hS hl
  obtain ⟨hx, hb, hml, hown, hts, hnw, hK, hDD, hA, hSF⟩ := id F
  have hlt : i.toNatClampNeg < n := Nat.not_le.mp fun q => hin (Or.inr q)
  have ht2 : (tyz (gc g))[k]? = some (gc g k, .array .int) := by rw [tyz_at hk, ht]
  refine W.aald (v := .ref (gh g (b + i.toNatClampNeg))) (ty := .array .int) hx hb (hP k _ (wd_qr hk hs)) ((hK.2 k _ ht2).1 n (fun j => va_rf (if j < n then some (gh g (b + j)) else none))) rfl (fun q => by cases q) (by show ¬ (i < 0 ∨ (arrV _ _ _).slots.size ≤ _); rw [arrV_size]; exact hin) ?_ rfl rfl hd (kk F H locs ls hP hS hl)
  show (arrV _ _ _).slots[_]? = _
  rw [arrV_read _ _ hlt]
  dsimp only
  rw [if_pos hlt]
  rfl
/-! ===== the static rows ===== -/
theorem o_gets0 {ix : Nat} (hd : decode cc pc = .ok (.getstatic ix, 3)) (hn : pc + 3 = pc') (hc : Cond.fieldLink own ix "BallInCup" "LEAST_SETTINGS" "[I" ∈ tb0) (kk : WA X g own nL cc pc' L (vR (gt0 g) :: st) mu) : WA X g own nL cc pc L st mu := by
  subst hn
  intro F H locs ls hP hS hl
  obtain ⟨hx, hb, hml, hown, hts, hnw, hK, hDD, hA, hSF⟩ := id F
  exact va_gets hx hb hSF.1 hS hown (hts _ hc) (fun _ h9 => h9) hd (kk F H locs ls hP hS hl)
theorem o_gets1 {ix : Nat} (hd : decode cc pc = .ok (.getstatic ix, 3)) (hn : pc + 3 = pc') (hc : Cond.fieldLink own ix "BallInCup" "MOST_SETTINGS" "[I" ∈ tb0) (kk : WA X g own nL cc pc' L (vR (gt1 g) :: st) mu) : WA X g own nL cc pc L st mu := by
  subst hn
  intro F H locs ls hP hS hl
  obtain ⟨hx, hb, hml, hown, hts, hnw, hK, hDD, hA, hSF⟩ := id F
  exact va_gets hx hb hSF.2.2.1 hS hown (hts _ hc) (fun _ h9 => h9) hd (kk F H locs ls hP hS hl)
theorem o_ti0 {i : Int32} (hd : decode cc pc = .ok (.iaload, 1)) (hn : pc + 1 = pc') (hin : vp_in i 3) (kk : WA X g own nL cc pc' L (vI (leastS i.toNatClampNeg) :: st) mu) : WA X g own nL cc pc L (vI i :: vR (gt0 g) :: st) mu := by
  subst hn
  intro F H locs ls hP hS hl
  obtain ⟨hx, hb, hml, hown, hts, hnw, hK, hDD, hA, hSF⟩ := id F
  exact va_ti hx hb hSF.2.1 hS hin rfl hd (kk F H locs ls hP hS hl)
theorem o_ti1 {i : Int32} (hd : decode cc pc = .ok (.iaload, 1)) (hn : pc + 1 = pc') (hin : vp_in i 3) (kk : WA X g own nL cc pc' L (vI (mostS i.toNatClampNeg) :: st) mu) : WA X g own nL cc pc L (vI i :: vR (gt1 g) :: st) mu := by
  subst hn
  intro F H locs ls hP hS hl
  obtain ⟨hx, hb, hml, hown, hts, hnw, hK, hDD, hA, hSF⟩ := id F
  exact va_ti hx hb hSF.2.2.2 hS hin rfl hd (kk F H locs ls hP hS hl)
/-! ===== returns, room ===== -/
def RM (X : CX) (d : Nat) : Prop := d ≤ (xR X).frames ∧ 40 * d ≤ (xR X).locals ∧ xk X ≤ (xR X).cells ∧ xn X ≤ (xR X).slots
def RI (X : CX) (g : GX) (d : Nat) (ty : FieldType) (Ret : Int32 → Mu → Prop) : Prop :=
  (xQ X = MQ (xb X) (va_Qi Ret (fun mu t => va_P (gD g) vwCl (wd (gh g) (gc g) mu) t.heap) (gA g)) (xa X) (xs X) (xk X) (xn X) (gA g)) ∧ (xh X).sig.returnType = some ty ∧ (xh X).locks = false ∧ RM X d
def RV (X : CX) (g : GX) (d : Nat) (Ret : Mu → Prop) : Prop :=
  (xQ X = MQ (xb X) (va_Qv Ret (fun mu t => va_P (gD g) vwCl (wd (gh g) (gc g) mu) t.heap) (gA g)) (xa X) (xs X) (xk X) (xn X) (gA g)) ∧ (xh X).sig.returnType = none ∧ (xh X).locks = false ∧ RM X d
theorem o_iret {d : Nat} {Ret : Int32 → Mu → Prop} {v : Int32} (hq : RI X g d .int Ret) (hd : decode cc pc = .ok (.ireturn, 1)) (hr : Ret v mu) : WA X g own nL cc pc L [vI v] mu := by
  intro F H locs ls hP hS hl
  rw [hq.1]
  exact W.iret (v := v) F.1 F.2.1 hq.2.1 (fun t ht hW => ⟨⟨v, mu, rfl, hr, by show va_P _ _ _ t.heap; rw [ht]; exact hP⟩, hS.F ht⟩) hS.2.2 hd hq.2.2.1
theorem o_zret {d : Nat} {Ret : Int32 → Mu → Prop} {v : Int32} (hq : RI X g d .boolean Ret) (hd : decode cc pc = .ok (.ireturn, 1)) (hv : v = 0 ∨ v = 1) (hr : Ret v mu) : WA X g own nL cc pc L [vI v] mu := by
  intro F H locs ls hP hS hl
  rw [hq.1]
  exact W.zret (v := v) F.1 F.2.1 hq.2.1 (fitZ hv).1 (fun t ht hW => ⟨⟨v, mu, rfl, hr, by show va_P _ _ _ t.heap; rw [ht]; exact hP⟩, hS.F ht⟩) hS.2.2 hd hq.2.2.1
theorem o_vret {d : Nat} {Ret : Mu → Prop} (hq : RV X g d Ret) (hd : decode cc pc = .ok (.return_, 1)) (hr : Ret mu) : WA X g own nL cc pc L [] mu := by
  intro F H locs ls hP hS hl
  rw [hq.1]
  exact W.vret F.1 F.2.1 hq.2.1 (fun t ht hW => ⟨⟨mu, rfl, hr, by show va_P _ _ _ t.heap; rw [ht]; exact hP⟩, hS.F ht⟩) hS.2.2 hd hq.2.2.1
/-! ===== Math ===== -/
def MTH (own : String) (ix : Nat) (y : MethodName) (yc : ByteArray) (n : Nat) : Prop := Cond.methodLink own ix y ∈ tb0 ∧ Cond.static y ∈ tb0 ∧ Cond.initialized "java/lang/Math" ∈ tb0 ∧ Cond.code y yc n (some .int) ∈ tb0
def wds (st : List AV) : Nat := (st.map (fun v => if cat2 v then 2 else 1)).sum
theorem wds_eq {h : Nat → Nat} : ∀ {st : List AV}, ((st.map (cv h)).map fun v => v.category).sum = wds st
  | [] => rfl
  | v :: st => by
    have ih := wds_eq (h := h) (st := st)
    show (cv h v).category + ((st.map (cv h)).map fun v => v.category).sum = (if cat2 v then 2 else 1) + wds st
    rw [ih]
    rcases v with x | x | k | a <;> rfl
theorem o_mabs {d ix : Nat} {a : Int32} (hm : MTH own ix Lib.Math.abs.name Lib.Math.abs.code 1) (hr : RM X (d + 1)) (hd : decode cc pc = .ok (.invokestatic ix, 3)) (hn : pc + 3 = pc') (hw : wds st ≤ 8) (kk : WA X g own nL cc pc' L (vI (if 0 ≤ a then a else 0 - a) :: st) mu) : WA X g own nL cc pc L (vI a :: st) mu := by
  subst hn
  intro F H locs ls hP hS hl
  obtain ⟨hx, hb, hml, hown, hts, hnw, hK, hDD, hA, hSF⟩ := id F
  obtain ⟨r1, r2, r3, r4⟩ := hr
  exact va_mabs hx hb (hml.trans hl.1.symm) hown (hts _ hm.1) (hts _ hm.2.1) (hts _ hm.2.2.1) (hts _ hm.2.2.2) (by omega) (by rw [wds_eq]; omega) r3 r4 hd (kk F H locs ls hP hS hl)
theorem o_mmax {d ix : Nat} {a b : Int32} (hm : MTH own ix Lib.Math.max.name Lib.Math.max.code 2) (hr : RM X (d + 1)) (hd : decode cc pc = .ok (.invokestatic ix, 3)) (hn : pc + 3 = pc') (hw : wds st ≤ 8) (kk : WA X g own nL cc pc' L (vI (if a < b then b else a) :: st) mu) : WA X g own nL cc pc L (vI b :: vI a :: st) mu := by
  subst hn
  intro F H locs ls hP hS hl
  obtain ⟨hx, hb, hml, hown, hts, hnw, hK, hDD, hA, hSF⟩ := id F
  obtain ⟨r1, r2, r3, r4⟩ := hr
  exact va_mmax hx hb (hml.trans hl.1.symm) hown (hts _ hm.1) (hts _ hm.2.1) (hts _ hm.2.2.1) (hts _ hm.2.2.2) (by omega) (by rw [wds_eq]; omega) r3 r4 hd (kk F H locs ls hP hS hl)
theorem o_mmin {d ix : Nat} {a b : Int32} (hm : MTH own ix Lib.Math.min.name Lib.Math.min.code 2) (hr : RM X (d + 1)) (hd : decode cc pc = .ok (.invokestatic ix, 3)) (hn : pc + 3 = pc') (hw : wds st ≤ 8) (kk : WA X g own nL cc pc' L (vI (if b < a then b else a) :: st) mu) : WA X g own nL cc pc L (vI b :: vI a :: st) mu := by
  subst hn
  intro F H locs ls hP hS hl
  obtain ⟨hx, hb, hml, hown, hts, hnw, hK, hDD, hA, hSF⟩ := id F
  obtain ⟨r1, r2, r3, r4⟩ := hr
  exact va_mmin hx hb (hml.trans hl.1.symm) hown (hts _ hm.1) (hts _ hm.2.1) (hts _ hm.2.2.1) (hts _ hm.2.2.2) (by omega) (by rw [wds_eq]; omega) r3 r4 hd (kk F H locs ls hP hS hl)
/-! ===== contracts over the world ===== -/
def AW (h : Nat → Nat) (sz : Nat) : Nat → Prop := fun q => (∃ k, k < NC ∧ q = h k) ∨ sz ≤ q
def PreW (D : va_G) (h : Nat → Nat) (cA : Nat → ClassId) (mu : Mu) (sz t0 t1 : Nat) (U : State) : Prop :=
  U.heap.size = sz ∧ va_P D vwCl (wd h cA mu) U.heap ∧ va_K D vwCl (tyz cA) U ∧ inj h ∧ (∀ w ∈ nw0, va_Nw w U) ∧ SF t0 t1 (AW h sz) U U.heap
def Con (y : MethodName) (yc : ByteArray) (n : Nat) (ret : Option FieldType) (d : Nat) (As : List AV) (mu : Mu) (Ret : Int32 → Mu → Prop) : Prop := ∀ (l : Launch) (D : va_G) (h : Nat → Nat) (cA : Nat → ClassId) (sz t0 t1 : Nat),
  Met l y (Cond.code y yc n ret :: tb0) (rm d) (va_Pc (As.map (cv h)) (PreW D h cA mu sz t0 t1)) (va_Qi Ret (fun mu' t => va_P D vwCl (wd h cA mu') t.heap) (AW h sz)) 0 0 (AW h sz)
def ConV (y : MethodName) (yc : ByteArray) (n : Nat) (d : Nat) (As : List AV) (mu : Mu) (Ret : Mu → Prop) : Prop := ∀ (l : Launch) (D : va_G) (h : Nat → Nat) (cA : Nat → ClassId) (sz t0 t1 : Nat),
  Met l y (Cond.code y yc n none :: tb0) (rm d) (va_Pc (As.map (cv h)) (PreW D h cA mu sz t0 t1)) (va_Qv Ret (fun mu' t => va_P D vwCl (wd h cA mu') t.heap) (AW h sz)) 0 0 (AW h sz)
def agL : Nat → List AV → List (Nat × AV)
  | _, [] => []
  | i, v :: vs => (i, v) :: agL (if cat2 v then i + 2 else i + 1) vs
theorem agL_eq {h : Nat → Nat} : ∀ (As : List AV) (i : Nat), mpL h (agL i As) = lv_args i (As.map (cv h))
  | [], _ => rfl
  | v :: vs, i => by
    have ih := agL_eq (h := h) vs (if cat2 v then i + 2 else i + 1)
    show (i, cv h v) :: mpL h (agL (if cat2 v then i + 2 else i + 1) vs) = (i, cv h v) :: lv_args (if (cv h v).category = 2 then i + 2 else i + 1) (vs.map (cv h))
    rw [ih]
    rcases v with x | x | k | a <;> rfl
theorem sl_len {h : Nat → Nat} : ∀ (As : List AV), (lg_sl (As.map (cv h))).length = wds As
  | [] => rfl
  | v :: vs => by
    have ih := sl_len (h := h) vs
    show ((if (cv h v).category = 2 then [Slot.val (cv h v), Slot.second] else [Slot.val (cv h v)]) ++ lg_sl (vs.map (cv h))).length = (if cat2 v then 2 else 1) + wds vs
    rw [List.length_append, ih]
    rcases v with x | x | k | a <;> rfl
theorem con_of {y : MethodName} {ty : FieldType} {d : Nat} {As : List AV} {Ret : Int32 → Mu → Prop} (hy : plainName y.cls = true) (hown : y.cls = own) (hlen : wds As ≤ nL) (body : ∀ (X : CX) (g : GX), RI X g d ty Ret → WA X g own nL cc 0 (agL 0 As) [] mu) : Con y cc nL (some ty) d As mu Ret := by
  intro l D h cA sz t0 t1
  refine Met.ofW (cc := cc) (maxL := nL) (ret := some ty) hy rfl ?_
  intro p e s m args below meth c s₁ B hml hv
  obtain ⟨rfl, hsz, hP, hK, hinj, hnw, hSF⟩ := hv
  subst hsz
  have hts := atoms_spec (ws := Cond.code y cc nL (some ty) :: tb0) B.pre
  have ho : s.vm.findClass own = some m.cls := by rw [← hown]; exact findClass_of_methodNamed B.named
  have hl := lv_entry (As.map (cv h)) (n := nL) (by rw [sl_len]; exact hlen)
  rw [← agL_eq] at hl
  rw [lg_entry_eq]
  exact body (p, l, e, rm d, s, m, (As.map (cv h)).toArray, below, meth, c, _, 0, 0) (D, h, cA, AW h s.heap.size, t0, t1) ⟨rfl, B.returns, B.notSynchronized, Nat.le_refl _, Nat.le_refl _, Nat.le_refl _, Nat.le_refl _⟩ ⟨B.exec, B.bytes, hml, ho, fun w hw => hts w (List.mem_cons_of_mem _ hw), hnw, hK, ⟨hinj, fun k hk => Or.inl ⟨k, hk, rfl⟩⟩, fun q hq => Or.inr hq, hSF⟩ s.heap [] _ hP va_S.rf hl
theorem conV_of {y : MethodName} {d : Nat} {As : List AV} {Ret : Mu → Prop} (hy : plainName y.cls = true) (hown : y.cls = own) (hlen : wds As ≤ nL) (body : ∀ (X : CX) (g : GX), RV X g d Ret → WA X g own nL cc 0 (agL 0 As) [] mu) : ConV y cc nL d As mu Ret := by
  intro l D h cA sz t0 t1
  refine Met.ofW (cc := cc) (maxL := nL) (ret := none) hy rfl ?_
  intro p e s m args below meth c s₁ B hml hv
  obtain ⟨rfl, hsz, hP, hK, hinj, hnw, hSF⟩ := hv
  subst hsz
  have hts := atoms_spec (ws := Cond.code y cc nL none :: tb0) B.pre
  have ho : s.vm.findClass own = some m.cls := by rw [← hown]; exact findClass_of_methodNamed B.named
  have hl := lv_entry (As.map (cv h)) (n := nL) (by rw [sl_len]; exact hlen)
  rw [← agL_eq] at hl
  rw [lg_entry_eq]
  exact body (p, l, e, rm d, s, m, (As.map (cv h)).toArray, below, meth, c, _, 0, 0) (D, h, cA, AW h s.heap.size, t0, t1) ⟨rfl, B.returns, B.notSynchronized, Nat.le_refl _, Nat.le_refl _, Nat.le_refl _, Nat.le_refl _⟩ ⟨B.exec, B.bytes, hml, ho, fun w hw => hts w (List.mem_cons_of_mem _ hw), hnw, hK, ⟨hinj, fun k hk => Or.inl ⟨k, hk, rfl⟩⟩, fun q hq => Or.inr hq, hSF⟩ s.heap [] _ hP va_S.rf hl
/-- a call site: what its words say -/
def CS (y : MethodName) (yc : ByteArray) (n : Nat) (ret : Option FieldType) (np : Nat) : Prop :=
  (y.cls ≠ "java/lang/invoke/MethodHandle" ∧ y.cls ≠ "java/lang/invoke/VarHandle" ∧ (parseMethodDescriptor y.desc).map (fun d => d.parameters.length) = some np) ∧ Cond.code y yc n ret ∈ tb0 ∧ Cond.initialized y.cls ∈ tb0 ∧ n ≤ 21
theorem good1 {c0 : Cond} (h : c0 ∈ tb0) : GoodIn tb0 (c0 :: tb0) := fun w hw => by
  rcases List.mem_cons.mp hw with e | e
  · rw [e]; exact good0 h
  · exact good0 e
theorem blind {D : va_G} {h : Nat → Nat} {cA : Nat → ClassId} {sz t0 t1 : Nat} {av : List Value} : FrameBlind (va_Pc av (PreW D h cA mu sz t0 t1)) := fun a U f mk q => by
  obtain ⟨q0, q1, qP, qK, qi, qn, qS⟩ := q
  exact ⟨q0, q1, qP, va_K.moved (u := U) (U := U.calling f mk a) (Vm.Alike.refl U.vm) qK, qi, fun w hw => va_Nw.same (nest_on (List.mem_filter.mp hw).2) (u := U) (U := U.calling f mk a) rfl (qn w hw), qS.go (U := U.calling f mk a) (Vm.Alike.refl U.vm) (fun _ _ _ => rfl) (fun _ z => z)⟩
theorem preW_at {H : Heap} {locs : List Loc} {U : State} (F : Fx X g own nL cc) (hP : va_P (gD g) vwCl (wd (gh g) (gc g) mu) H) (hS : va_S (gA g) (xs X).heap H locs) (hU : U.heap = H) (hW : (xs X).WarmedH U.vm) : PreW (gD g) (gh g) (gc g) mu H.size (gt0 g) (gt1 g) U := by
  obtain ⟨hx, hb, hml, hown, hts, hnw, hK, hDD, hA, hSF⟩ := F
  refine ⟨by rw [hU], by rw [hU]; exact hP, va_K.moved hW.alike hK, hDD.1, nw_warm hW hnw, ?_⟩
  rw [hU]
  refine hSF.go hW.alike (fun a h1 h2 => hS.2.1 a h1 h2) (fun q hq => ?_)
  rcases hq with ⟨k, hk, rfl⟩ | hq
  · exact hDD.2 k hk
  · exact hA q (Nat.le_trans hS.1 hq)
theorem aw_in {H : Heap} {locs : List Loc} (F : Fx X g own nL cc) (hS : va_S (gA g) (xs X).heap H locs) : ∀ q, AW (gh g) H.size q → gA g q := fun q hq => by
  obtain ⟨hx, hb, hml, hown, hts, hnw, hK, hDD, hA, hSF⟩ := F
  rcases hq with ⟨k, hk, rfl⟩ | hq
  · exact hDD.2 k hk
  · exact hA q (Nat.le_trans hS.1 hq)
theorem st_rev {h : Nat → Nat} {As rest : List AV} : (As.reverse ++ rest).map (cv h) = (As.map (cv h)).reverse ++ rest.map (cv h) := by
  rw [List.map_append, List.map_reverse]
def CSV (own : String) (ix : Nat) (y : MethodName) : Prop := Cond.methodLink own ix y ∈ tb0 ∧ Cond.instanceMethod y ∈ tb0 ∧ Cond.selects y.cls y y ∈ tb0
theorem wsV_in {y : MethodName} {yc : ByteArray} {n np ix : Nat} {ret : Option FieldType} (c : CS y yc n ret np) (v : CSV own ix y) : GoodIn tb0 (wsV own ix y.cls y (Cond.code y yc n ret :: tb0)) := fun w hw => by
  unfold wsV at hw
  rcases List.mem_append.mp hw with e | e
  · rcases List.mem_cons.mp e with e | e
    · rw [e]; exact good0 v.1
    · rcases List.mem_cons.mp e with e | e
      · rw [e]; exact good0 v.2.1
      · rcases List.mem_cons.mp e with e | e
        · rw [e]; exact good0 v.2.2
        · rcases List.mem_cons.mp e with e | e
          · rw [e]; exact good0 c.2.2.1
          · cases e
  · exact good1 c.2.1 w e
theorem o_callV {y : MethodName} {yc : ByteArray} {n np ix d dd k ci : Nat} {ret : Option FieldType} {As rest : List AV} {Ret : Int32 → Mu → Prop} {q : vw_C} {fs : List (Option Nat)} (c : CS y yc n ret np) (v : CSV own ix y) (hM : Con y yc n ret d (vC k :: As) mu Ret) (hr : RM X dd) (hdd : d + 1 ≤ dd) (hd : decode cc pc = .ok (.invokevirtual ix, 3)) (hn : pc + 3 = pc') (hk : k < NC) (hs : sh k = .inl (ci, fs)) (hc : vwCl[ci]? = some q) (hcq : q.1 = y.cls) (hnp : As.length = np) (hst : st = As.reverse ++ vC k :: rest) (hw : wds rest ≤ 8)
    (kk : ∀ (r : Int32) (mu' : Mu), Ret r mu' → WA X g own nL cc pc' L (vI r :: rest) mu') : WA X g own nL cc pc L st mu := by
  subst hn
  subst hst
  intro F H locs ls hP hS hl
  obtain ⟨hx, hb, hml, hown, hts, hnw, hK, hDD, hA, hSF⟩ := id F
  obtain ⟨r1, r2, r3, r4⟩ := hr
  have c4 := c.2.2.2
  refine va_calli (va_runV (b := gh g k) (As := As.map (cv (gh g))) (rest := rest.map (cv (gh g))) ⟨hx, hb, hml, hown, hts⟩ (hM (xl X) (gD g) (gh g) (gc g) H.size (gt0 g) (gt1 g)) (cwV np hts (wsV_in c v) rfl rfl rfl ⟨rfl, c.1⟩ ⟨by show d + 1 ≤ _; omega, by show 8 + (n + 11) + 40 * d ≤ _; omega⟩) ⟨blind, by rw [← hcq]; exact va_recv hK hP hc (wd_ob hk hs), fun U hU hW => ⟨rfl, preW_at F hP hS hU hW⟩⟩ rfl (by rw [List.length_map]; exact hnp) hl.1 st_rev (by rw [wds_eq]; show 0 + _ ≤ 8; omega) hd ⟨r3, r4⟩) hS (fun q _ h => aw_in F hS q h) (aw_in F hS) (fun r u t H1 locs1 ht hvm hp hB hz1 hk1 hS1 => ?_)
  exact kk r u hp F H1 locs1 ls (by rw [← ht]; exact hB) hS1 hl
theorem o_callVV {y : MethodName} {yc : ByteArray} {n np ix d dd k ci : Nat} {As rest : List AV} {Ret : Mu → Prop} {q : vw_C} {fs : List (Option Nat)} (c : CS y yc n none np) (v : CSV own ix y) (hM : ConV y yc n d (vC k :: As) mu Ret) (hr : RM X dd) (hdd : d + 1 ≤ dd) (hd : decode cc pc = .ok (.invokevirtual ix, 3)) (hn : pc + 3 = pc') (hk : k < NC) (hs : sh k = .inl (ci, fs)) (hc : vwCl[ci]? = some q) (hcq : q.1 = y.cls) (hnp : As.length = np) (hst : st = As.reverse ++ vC k :: rest) (hw : wds rest ≤ 8)
    (kk : ∀ (mu' : Mu), Ret mu' → WA X g own nL cc pc' L rest mu') : WA X g own nL cc pc L st mu := by
  subst hn
  subst hst
  intro F H locs ls hP hS hl
  obtain ⟨hx, hb, hml, hown, hts, hnw, hK, hDD, hA, hSF⟩ := id F
  obtain ⟨r1, r2, r3, r4⟩ := hr
  have c4 := c.2.2.2
  refine va_callv (va_runV (b := gh g k) (As := As.map (cv (gh g))) (rest := rest.map (cv (gh g))) ⟨hx, hb, hml, hown, hts⟩ (hM (xl X) (gD g) (gh g) (gc g) H.size (gt0 g) (gt1 g)) (cwV np hts (wsV_in c v) rfl rfl rfl ⟨rfl, c.1⟩ ⟨by show d + 1 ≤ _; omega, by show 8 + (n + 11) + 40 * d ≤ _; omega⟩) ⟨blind, by rw [← hcq]; exact va_recv hK hP hc (wd_ob hk hs), fun U hU hW => ⟨rfl, preW_at F hP hS hU hW⟩⟩ rfl (by rw [List.length_map]; exact hnp) hl.1 st_rev (by rw [wds_eq]; show 0 + _ ≤ 8; omega) hd ⟨r3, r4⟩) hS (fun q _ h => aw_in F hS q h) (aw_in F hS) (fun u t H1 locs1 ht hvm hp hB hz1 hk1 hS1 => ?_)
  exact kk u hp F H1 locs1 ls (by rw [← ht]; exact hB) hS1 hl
def CSS (own : String) (ix : Nat) (y : MethodName) (nest : Bool) : Prop := Cond.static y ∈ tb0 ∧ (nest = false → Cond.methodLink own ix y ∈ tb0) ∧ (nest = true → ∃ host, Cond.methodLinkNest own ix y host ∈ nw0)
theorem wsS_in {y : MethodName} {yc : ByteArray} {n np ix : Nat} {ret : Option FieldType} (c : CS y yc n ret np) (v : CSS own ix y false) : GoodIn tb0 (va_wsS own ix y (Cond.code y yc n ret :: tb0)) := fun w hw => by
  unfold va_wsS at hw
  rcases List.mem_append.mp hw with e | e
  · rcases List.mem_cons.mp e with e | e
    · rw [e]; exact good0 (v.2.1 rfl)
    · rcases List.mem_cons.mp e with e | e
      · rw [e]; exact good0 v.1
      · rcases List.mem_cons.mp e with e | e
        · rw [e]; exact good0 c.2.2.1
        · cases e
  · exact good1 c.2.1 w e
theorem o_callS {y : MethodName} {yc : ByteArray} {n np ix d dd : Nat} {ret : Option FieldType} {As rest : List AV} {Ret : Int32 → Mu → Prop} {nest : Bool} (c : CS y yc n ret np) (v : CSS own ix y nest) (hM : Con y yc n ret d As mu Ret) (hr : RM X dd) (hdd : d + 1 ≤ dd) (hd : decode cc pc = .ok (.invokestatic ix, 3)) (hn : pc + 3 = pc') (hnp : As.length = np) (hst : st = As.reverse ++ rest) (hw : wds rest ≤ 8)
    (kk : ∀ (r : Int32) (mu' : Mu), Ret r mu' → WA X g own nL cc pc' L (vI r :: rest) mu') : WA X g own nL cc pc L st mu := by
  subst hn
  subst hst
  intro F H locs ls hP hS hl
  obtain ⟨hx, hb, hml, hown, hts, hnw, hK, hDD, hA, hSF⟩ := id F
  obtain ⟨r1, r2, r3, r4⟩ := hr
  have c4 := c.2.2.2
  cases nest with
  | false =>
    refine va_calli (va_runS (As := As.map (cv (gh g))) (rest := rest.map (cv (gh g))) ⟨hx, hb, hml, hown, hts⟩ (hM (xl X) (gD g) (gh g) (gc g) H.size (gt0 g) (gt1 g)) (va_cwS np hts (wsS_in c v) rfl rfl rfl c.1 ⟨by show d + 1 ≤ _; omega, by show 8 + (n + 11) + 40 * d ≤ _; omega⟩) ⟨blind, fun U hU hW => ⟨rfl, preW_at F hP hS hU hW⟩⟩ rfl (by rw [List.length_map]; exact hnp) hl.1 st_rev (by rw [wds_eq]; show 0 + _ ≤ 8; omega) hd ⟨r3, r4⟩) hS (fun q _ h => aw_in F hS q h) (aw_in F hS) (fun r u t H1 locs1 ht hvm hp hB hz1 hk1 hS1 => ?_)
    exact kk r u hp F H1 locs1 ls (by rw [← ht]; exact hB) hS1 hl
  | true =>
    obtain ⟨host, hh⟩ := v.2.2 rfl
    refine va_calli (va_runSN (host := host) (As := As.map (cv (gh g))) (rest := rest.map (cv (gh g))) ⟨hx, hb, hml, hown, hts⟩ (hM (xl X) (gD g) (gh g) (gc g) H.size (gt0 g) (gt1 g)) ⟨va_cnB np hts (good1 c.2.1) rfl rfl rfl (hnw _ hh) (hts _ c.2.2.1) c.1 ⟨by show d + 1 ≤ _; omega, by show 8 + (n + 11) + 40 * d ≤ _; omega⟩, hts _ v.1, trivial⟩ ⟨blind, fun U hU hW => ⟨rfl, preW_at F hP hS hU hW⟩⟩ rfl (by rw [List.length_map]; exact hnp) hl.1 st_rev (by rw [wds_eq]; show 0 + _ ≤ 8; omega) hd ⟨r3, r4⟩) hS (fun q _ h => aw_in F hS q h) (aw_in F hS) (fun r u t H1 locs1 ht hvm hp hB hz1 hk1 hS1 => ?_)
    exact kk r u hp F H1 locs1 ls (by rw [← ht]; exact hB) hS1 hl
theorem o_callSV {y : MethodName} {yc : ByteArray} {n np ix d dd : Nat} {As rest : List AV} {Ret : Mu → Prop} (c : CS y yc n none np) (v : CSS own ix y false) (hM : ConV y yc n d As mu Ret) (hr : RM X dd) (hdd : d + 1 ≤ dd) (hd : decode cc pc = .ok (.invokestatic ix, 3)) (hn : pc + 3 = pc') (hnp : As.length = np) (hst : st = As.reverse ++ rest) (hw : wds rest ≤ 8)
    (kk : ∀ (mu' : Mu), Ret mu' → WA X g own nL cc pc' L rest mu') : WA X g own nL cc pc L st mu := by
  subst hn
  subst hst
  intro F H locs ls hP hS hl
  obtain ⟨hx, hb, hml, hown, hts, hnw, hK, hDD, hA, hSF⟩ := id F
  obtain ⟨r1, r2, r3, r4⟩ := hr
  have c4 := c.2.2.2
  refine va_callv (va_runS (As := As.map (cv (gh g))) (rest := rest.map (cv (gh g))) ⟨hx, hb, hml, hown, hts⟩ (hM (xl X) (gD g) (gh g) (gc g) H.size (gt0 g) (gt1 g)) (va_cwS np hts (wsS_in c v) rfl rfl rfl c.1 ⟨by show d + 1 ≤ _; omega, by show 8 + (n + 11) + 40 * d ≤ _; omega⟩) ⟨blind, fun U hU hW => ⟨rfl, preW_at F hP hS hU hW⟩⟩ rfl (by rw [List.length_map]; exact hnp) hl.1 st_rev (by rw [wds_eq]; show 0 + _ ≤ 8; omega) hd ⟨r3, r4⟩) hS (fun q _ h => aw_in F hS q h) (aw_in F hS) (fun u t H1 locs1 ht hvm hp hB hz1 hk1 hS1 => ?_)
  exact kk u hp F H1 locs1 ls (by rw [← ht]; exact hB) hS1 hl
end ROWS
