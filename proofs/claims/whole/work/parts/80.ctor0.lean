/-! ===== the world while it is made: a list that grows ===== -/
def va_AOA (ty : FieldType) (U : State) : Prop := (Cond.arrayOver (.array ty)).before #[] U = true
theorem aov_same {ty : FieldType} {A B : Array Value} {u U : State} (e : u.vm = U.vm) (h : (Cond.arrayOver (.array ty)).before A u = true) : (Cond.arrayOver (.array ty)).before B U = true := by
  simp only [Cond.before, Cond.holds, Cond.value] at h ⊢
  rw [← e]
  exact h
theorem va_AOA.use {ty : FieldType} {A : Array Value} {U : State} (h : va_AOA ty U) : (Cond.arrayOver (.array ty)).before A U = true := aov_same rfl h
theorem va_AOA.moved {ty : FieldType} {u U : State} (hvm : u.vm.Alike U.vm) (h : va_AOA ty u) : va_AOA ty U :=
  aov_same (A := #[]) (u := u.setVm U.vm) rfl (by rw [Cond.arrayOver_setVmC hvm]; exact h)
abbrev KS : Type := ClassId × ClassId × ClassId
def kty (k : KS) : List (ClassId × FieldType) := [(k.1, .int), (k.2.1, .boolean), (k.2.2, .array .int)]
def st3 (j : Nat) : Int32 := if j = 0 then 30 else if j = 1 then 1 else 6
def FS (tS : Nat) (A : Nat → Prop) (U : State) (H : Heap) : Prop :=
  va_Z "BallInCup" "FIRST_SETTINGS" "[I" (.ref tS) A U H ∧ ∃ cell : Cell, H[tS]? = some cell ∧ cell.slots = (arrV cell.cls 3 (fun j => .int (st3 j))).slots ∧ U.vm.findClass "[I" = some cell.cls ∧ (∀ k, cell.vm ≠ .statics k) ∧ cell.vm ≠ .unknown ∧ ¬ A tS
theorem FS.go {tS : Nat} {A B : Nat → Prop} {u U : State} {H H1 : Heap} (h : FS tS A u H) (hvm : u.vm.Alike U.vm) (hq : ∀ a : Nat, a < H.size → ¬ A a → H1[a]? = H[a]?) (hAB : ∀ q, B q → A q) : FS tS B U H1 := by
  obtain ⟨h1, cell, h2, h3, h4, h5, h6, h7⟩ := h
  exact ⟨((h1.kept hq).narrow hAB).moved hvm, cell, by rw [hq tS (Array.getElem?_eq_some_iff.mp h2).1 h7]; exact h2, h3, by rw [hvm.findClass]; exact h4, h5, h6, fun z => h7 (hAB _ z)⟩
/-- the words that calls don't carry by themselves -/
def PX (U : State) : Prop := (∀ w ∈ nw0, va_Nw w U) ∧ va_AOA .int U ∧ va_Nw (.castable "[I" "java/lang/Cloneable") U
theorem PX.warm {s U : State} (hW : s.WarmedH U.vm) (h : PX s) : PX U := ⟨nw_warm hW h.1, va_AOA.moved hW.alike h.2.1, va_Nw.warmC hW h.2.2⟩
theorem PX.same {u U : State} (e : u.vm = U.vm) (h : PX u) : PX U := ⟨fun w hw => va_Nw.same (nest_on (List.mem_filter.mp hw).2) e (h.1 w hw), aov_same e h.2.1, va_Nw.same rfl e h.2.2⟩
abbrev GL : Type := va_G × KS × (Nat → Prop) × Nat
abbrev lD (g : GL) : va_G := g.1
abbrev lk (g : GL) : KS := g.2.1
abbrev lA (g : GL) : Nat → Prop := g.2.2.1
abbrev lt (g : GL) : Nat := g.2.2.2
def FL (X : CX) (g : GL) (own : String) (nL : Nat) (cc : ByteArray) : Prop :=
  (xp X).tables.exec = Jvm.exec ∧ (xc X).code = cc ∧ (xc X).maxLocals = nL ∧ (xs X).vm.findClass own = some (xm X).cls ∧ (∀ w ∈ tb0, w.before (xa X) (xs X) = true) ∧ PX (xs X) ∧ va_K (lD g) vwCl (kty (lk g)) (xs X) ∧ (∀ q, (xs X).heap.size ≤ q → lA g q) ∧ FS (lt g) (lA g) (xs X) (xs X).heap
def WL (X : CX) (g : GL) (own : String) (nL : Nat) (cc : ByteArray) (pc : Nat) (L : List (Nat × Value)) (st : List Value) (w0 w : va_W) (cn sn : Nat) : Prop :=
  FL X g own nL cc → ∀ (H : Heap) (locs : List Loc) (ls : Array Slot), va_P (lD g) vwCl (w0 ++ w) H → va_D (lA g) (w0 ++ w) → va_S (lA g) (xs X).heap H locs → lv_has ls nL L →
    W (xp X) (xl X) (xe X) (xR X) (xs X) (xm X) (xa X) (xb X) (xh X) (xc X) H locs cn sn (xQ X) (F0 (xm X) pc ls st)
def PreL (D : va_G) (ks : KS) (ws : va_W) (sz tS : Nat) (U : State) : Prop :=
  U.heap.size = sz ∧ va_P D vwCl ws U.heap ∧ va_D (fun _ => True) ws ∧ va_K D vwCl (kty ks) U ∧ PX U ∧ FS tS (va_A ws sz) U U.heap
def rmL (d mc ms : Nat) : Room := { frames := d, cells := mc, slots := ms, locals := 40 * d }
def ConI (y : MethodName) (yc : ByteArray) (n d mc ms : Nat) (As : List Value) (x : Nat × va_E) (Hw : va_W → Prop) (ks : KS) (Ret : va_W → Prop) : Prop := ∀ (l : Launch) (D : va_G) (sz tS : Nat) (w0 : va_W), Hw w0 →
  Met l y (Cond.code y yc n none :: tb0) (rmL d mc ms) (va_Pc As (PreL D ks (w0 ++ [x]) sz tS)) (va_Qv Ret (fun w' t => va_P D vwCl (w0 ++ w') t.heap ∧ va_D (va_A (w0 ++ [x]) sz) (w0 ++ w')) (va_A (w0 ++ [x]) sz)) mc ms (va_A (w0 ++ [x]) sz)
def RL2 (X : CX) (g : GL) (w0 : va_W) (d mc ms : Nat) (Ret : va_W → Prop) : Prop :=
  (xQ X = MQ (xb X) (va_Qv Ret (fun w' t => va_P (lD g) vwCl (w0 ++ w') t.heap ∧ va_D (lA g) (w0 ++ w')) (lA g)) (xa X) (xs X) mc ms (lA g)) ∧ (xh X).sig.returnType = none ∧ (xh X).locks = false ∧ (xh X).name = "<init>" ∧ xR X = rmL d mc ms
section LROWS
variable {X : CX} {g : GL} {own : String} {nL : Nat} {cc : ByteArray} {pc pc' : Nat} {L L' : List (Nat × Value)} {st : List Value} {w0 w w' : va_W} {cn sn : Nat}
theorem con_i {y : MethodName} {d mc ms : Nat} {As : List Value} {x : Nat × va_E} {Hw : va_W → Prop} {ks : KS} {Ret : va_W → Prop} (hy : plainName y.cls = true) (hown : y.cls = own) (hnm : y.name = "<init>") (hlen : (lg_sl As).length ≤ nL) (body : ∀ (X : CX) (g : GL) (w0 : va_W), Hw w0 → lk g = ks → RL2 X g w0 d mc ms Ret → WL X g own nL cc 0 (lv_args 0 As) [] w0 [x] 0 0) : ConI y cc nL d mc ms As x Hw ks Ret := by
  intro l D sz tS w0 hw
  refine Met.ofW (cc := cc) (maxL := nL) (ret := none) hy rfl ?_
  intro p e s m args below meth c s₁ B hml hv
  obtain ⟨rfl, hsz, hP, hD, hK, hPX, hFS⟩ := hv
  subst hsz
  have hts := atoms_spec (ws := Cond.code y cc nL none :: tb0) B.pre
  have ho : s.vm.findClass own = some m.cls := by rw [← hown]; exact findClass_of_methodNamed B.named
  have hin : meth.name = "<init>" := by rw [← hnm]; exact (name_of_methodNamed B.named B.method).1
  have hl := lv_entry As (n := nL) hlen
  rw [lg_entry_eq]
  exact body (p, l, e, rmL d mc ms, s, m, As.toArray, below, meth, c, _, 0, 0) (D, ks, va_A (w0 ++ [x]) s.heap.size, tS) w0 hw rfl ⟨rfl, B.returns, B.notSynchronized, hin, rfl⟩ ⟨B.exec, B.bytes, hml, ho, fun w hw => hts w (List.mem_cons_of_mem _ hw), hPX, hK, fun q hq => Or.inr hq, hFS⟩ s.heap [] _ hP hD.self va_S.rf hl
theorem l_aload_n {i x : Nat} {kk : Fin 4} (j : Nat) (hd : decode cc pc = .ok (.aload_n kk, 1)) (hn : pc + 1 = pc') (hi : (kk : Nat) = i) (hg : L[j]? = some (i, .ref x)) (k : WL X g own nL cc pc' L (.ref x :: st) w0 w cn sn) : WL X g own nL cc pc L st w0 w cn sn := by
  subst hn
  intro F H locs ls hP hD hS hl
  exact lv_aload_n F.1 F.2.1 hd hi (lv_at hl j hg) (k F H locs ls hP hD hS hl)
theorem l_iload_n {i : Nat} {x : Int32} {kk : Fin 4} (j : Nat) (hd : decode cc pc = .ok (.iload_n kk, 1)) (hn : pc + 1 = pc') (hi : (kk : Nat) = i) (hg : L[j]? = some (i, .int x)) (k : WL X g own nL cc pc' L (.int x :: st) w0 w cn sn) : WL X g own nL cc pc L st w0 w cn sn := by
  subst hn
  intro F H locs ls hP hD hS hl
  exact lv_iload_n F.1 F.2.1 hd hi (lv_at hl j hg) (k F H locs ls hP hD hS hl)
theorem l_astore_n {i x : Nat} {kk : Fin 4} (hd : decode cc pc = .ok (.astore_n kk, 1)) (hn : pc + 1 = pc') (hi : (kk : Nat) = i) (hi2 : i < nL) (hL : (i, Value.ref x) :: L.filter (fun q => !(q.1 == i) && !(q.1 + 1 == i && q.2.category == 2)) = L') (k : WL X g own nL cc pc' L' st w0 w cn sn) : WL X g own nL cc pc L (.ref x :: st) w0 w cn sn := by
  subst hn
  intro F H locs ls hP hD hS hl
  exact lv_astore_n F.1 F.2.1 hd hi hl hi2 hL (fun ls2 hl2 => k F H locs ls2 hP hD hS hl2)
theorem l_istore_n {i : Nat} {x : Int32} {kk : Fin 4} (hd : decode cc pc = .ok (.istore_n kk, 1)) (hn : pc + 1 = pc') (hi : (kk : Nat) = i) (hi2 : i < nL) (hL : (i, Value.int x) :: L.filter (fun q => !(q.1 == i) && !(q.1 + 1 == i && q.2.category == 2)) = L') (k : WL X g own nL cc pc' L' st w0 w cn sn) : WL X g own nL cc pc L (.int x :: st) w0 w cn sn := by
  subst hn
  intro F H locs ls hP hD hS hl
  exact lv_istore_n F.1 F.2.1 hd hi hl hi2 hL (fun ls2 hl2 => k F H locs ls2 hP hD hS hl2)
theorem l_iinc {i : Nat} {n : Int} {x v : Int32} (j : Nat) (hd : decode cc pc = .ok (.iinc i n, 3)) (hn : pc + 3 = pc') (hg : L[j]? = some (i, .int x)) (hv : x + Int32.ofInt n = v) (hi2 : i < nL) (hL : (i, Value.int v) :: L.filter (fun q => !(q.1 == i) && !(q.1 + 1 == i && q.2.category == 2)) = L') (k : WL X g own nL cc pc' L' st w0 w cn sn) : WL X g own nL cc pc L st w0 w cn sn := by
  subst hn
  intro F H locs ls hP hD hS hl
  exact lv_iinc F.1 F.2.1 hd hl (k := j) hg hv hi2 hL (fun ls2 hl2 => k F H locs ls2 hP hD hS hl2)
theorem l_goto {off : Int} {tgt : Nat} (hd : decode cc pc = .ok (.goto off, 3)) (ht : (pc : Int) + off = (tgt : Int)) (k : WL X g own nL cc tgt L st w0 w cn sn) : WL X g own nL cc pc L st w0 w cn sn := by
  intro F H locs ls hP hD hS hl
  exact lv_goto F.1 F.2.1 hd ht (k F H locs ls hP hD hS hl)
theorem l_icmp_ge {a b : Int32} {off : Int} {tgt : Nat} (hd : decode cc pc = .ok (.if_icmp .ge off, 3)) (ht : (pc : Int) + off = (tgt : Int)) (hn : pc + 3 = pc') (kt : b ≤ a → WL X g own nL cc tgt L st w0 w cn sn) (kf : ¬ b ≤ a → WL X g own nL cc pc' L st w0 w cn sn) : WL X g own nL cc pc L (.int b :: .int a :: st) w0 w cn sn := by
  subst hn
  intro F H locs ls hP hD hS hl
  exact lv_icmp_ge F.1 F.2.1 hd ht (fun q => kt q F H locs ls hP hD hS hl) (fun q => kf q F H locs ls hP hD hS hl)
theorem l_iconst {n : Int} {v : Int32} (hd : decode cc pc = .ok (.iconst n, 1)) (hn : pc + 1 = pc') (hv : Int32.ofInt n = v) (k : WL X g own nL cc pc' L (.int v :: st) w0 w cn sn) : WL X g own nL cc pc L st w0 w cn sn := by
  subst hn
  intro F H locs ls hP hD hS hl
  exact lv_iconst F.1 F.2.1 hd hv (k F H locs ls hP hD hS hl)
theorem l_bipush {n : Int} {v : Int32} (hd : decode cc pc = .ok (.bipush n, 2)) (hn : pc + 2 = pc') (hv : (Int8.ofInt n).toInt32 = v) (k : WL X g own nL cc pc' L (.int v :: st) w0 w cn sn) : WL X g own nL cc pc L st w0 w cn sn := by
  subst hn
  intro F H locs ls hP hD hS hl
  exact lv_bipush F.1 F.2.1 hd hv (k F H locs ls hP hD hS hl)
theorem l_sipush {n : Int} {v : Int32} (hd : decode cc pc = .ok (.sipush n, 3)) (hn : pc + 3 = pc') (hv : (Int16.ofInt n).toInt32 = v) (k : WL X g own nL cc pc' L (.int v :: st) w0 w cn sn) : WL X g own nL cc pc L st w0 w cn sn := by
  subst hn
  intro F H locs ls hP hD hS hl
  exact lv_sipush F.1 F.2.1 hd hv (k F H locs ls hP hD hS hl)
theorem l_dup {x : Nat} (hd : decode cc pc = .ok (.dup, 1)) (hn : pc + 1 = pc') (k : WL X g own nL cc pc' L (.ref x :: .ref x :: st) w0 w cn sn) : WL X g own nL cc pc L (.ref x :: st) w0 w cn sn := by
  subst hn
  intro F H locs ls hP hD hS hl
  exact lv_dup F.1 F.2.1 hd rfl (k F H locs ls hP hD hS hl)
theorem at_r {α : Type} {u v : List α} {i : Nat} {x : α} (h : v[i]? = some x) : (u ++ v)[u.length + i]? = some x := by
  rw [List.getElem?_append_right (by omega), show u.length + i - u.length = i by omega]
  exact h
theorem at_l {α : Type} {u v : List α} {i : Nat} {x : α} (h : u[i]? = some x) : (u ++ v)[i]? = some x := by
  rw [List.getElem?_append_left (List.getElem?_eq_some_iff.mp h).1]
  exact h
theorem set_r {α : Type} {u v : List α} {i : Nat} {x : α} : (u ++ v).set (u.length + i) x = u ++ v.set i x := by
  rw [List.set_append_right _ _ (by omega), show u.length + i - u.length = i by omega]
/-- a field that holds a reference; the cell at place p of the whole list -/
theorem l_get {C : String} {T : u_T} {N ci i ix p a : Nat} {fs : List Value} {v : Value} {nest : Bool} (cl : CLk own C T N ci i ix nest) (hd : decode cc pc = .ok (.getfield ix, 3)) (hn : pc + 3 = pc') (he : (w0 ++ w)[p]? = some (a, .inr (ci, fs))) (hv : fs[i]? = some v) (kk : WL X g own nL cc pc' L (v :: st) w0 w cn sn) : WL X g own nL cc pc L (.ref a :: st) w0 w cn sn := by
  subst hn
  intro F H locs ls hP hD hS hl
  obtain ⟨c1, c2, c3, c4, c5, c6⟩ := cl
  obtain ⟨hx, hb, hml, hown, hts, hpx, hK, hA, hFS⟩ := id F
  cases nest with
  | false => exact va_get (D := lD g) (ci := ci) (C := C) (T := T) (N := N) hx hb hts c2 hown hK hP p he c1 i c3 (hts _ (c5 rfl)) (fun _ h9 => by rw [c4] at h9; exact h9) hv hd (kk F H locs ls hP hD hS hl)
  | true =>
    obtain ⟨host, hh⟩ := c6 rfl
    exact va_getN (D := lD g) (ci := ci) (C := C) (T := T) (N := N) hx hb hts c2 hown hK hP p he c1 i c3 (va_Nw.use (nest_on rfl) (hpx.1 _ hh)) (fun _ h9 => by rw [c4] at h9; exact h9) hv hd (kk F H locs ls hP hD hS hl)
/-- what a store needs, whether the field is final or not -/
def CLq (T : u_T) (ty0 : Nat → FieldType) (N i : Nat) (ty : FieldType) : Prop :=
  (∀ k, k < N → parseFieldDescriptor (T k).2.2.1 = some (ty0 k)) ∧ (∀ a, a < N → ∀ b, b < N → a ≠ b → (T a).2.1 ≠ (T b).2.1) ∧ parseFieldDescriptor (T i).2.2.1 = some ty
theorem l_put {C : String} {T : u_T} {ty0 : Nat → FieldType} {ty : FieldType} {N ci i ix j a : Nat} {fs : List Value} {v : Value} (hin : (xh X).name = "<init>") (hC : C = own) (cl : CLk own C T N ci i ix false) (cp : CLq T ty0 N i ty) (hd : decode cc pc = .ok (.putfield ix, 3)) (hn : pc + 3 = pc') (he : w[j]? = some (a, .inr (ci, fs))) (hi : i < fs.length) (hfit : narrow ty v = v ∧ fits ty v = true) (hw : w.set j (a, .inr (ci, fs.set i v)) = w') (kk : WL X g own nL cc pc' L st w0 w' cn sn) : WL X g own nL cc pc L (v :: .ref a :: st) w0 w cn sn := by
  subst hn
  subst hw
  intro F H locs ls hP hD hS hl
  obtain ⟨c1, c2, c3, c4, c5, c6⟩ := cl
  obtain ⟨p1, p2, p4⟩ := cp
  obtain ⟨hx, hb, hml, hown, hts, hpx, hK, hA, hFS⟩ := id F
  cases hf : (T i).2.2.2 with
  | false =>
    refine va_put (D := lD g) (ci := ci) (v := v) (ty := ty) (C := C) (T := T) (N := N) hx hb hts c2 ty0 p1 p2 hown hK hP hD hS (w0.length + j) (at_r he) c1 i c3 (hts _ (c5 rfl)) (fun _ h9 => by rw [c4] at h9; exact h9) hf p4 hfit.1 hfit.2 hi hd (fun H1 locs1 hP1 hD1 hS1 => ?_)
    rw [set_r] at hP1 hD1
    exact kk F H1 locs1 ls hP1 hD1 hS1 hl
  | true =>
    refine va_putF (D := lD g) (ci := ci) (v := v) (ty := ty) (C := C) (T := T) (N := N) hx hb hts c2 ty0 p1 p2 hown hK hP hD hS (w0.length + j) (at_r he) c1 i c3 (hts _ (c5 rfl)) (fun _ h9 => by rw [c4] at h9; exact h9) hf hin (c4.trans hC) p4 hfit.1 hfit.2 hi hd (fun H1 locs1 hP1 hD1 hS1 => ?_)
    rw [set_r] at hP1 hD1
    exact kk F H1 locs1 ls hP1 hD1 hS1 hl
theorem l_iast {j a n k : Nat} {i x : Int32} {f : Nat → Int32} (hd : decode cc pc = .ok (.iastore, 1)) (hn : pc + 1 = pc') (he : w[j]? = some (a, .inl ((lk g).1, n, .inl f))) (hin : vp_in i n) (hk : i.toNatClampNeg = k) (hw : w.set j (a, .inl ((lk g).1, n, .inl (upd f k x))) = w') (kk : WL X g own nL cc pc' L st w0 w' cn sn) : WL X g own nL cc pc L (.int x :: .int i :: .ref a :: st) w0 w cn sn := by
  subst hn
  subst hw
  subst hk
  intro F H locs ls hP hD hS hl
  obtain ⟨hx, hb, hml, hown, hts, hpx, hK, hA, hFS⟩ := id F
  refine va_iast hx hb hK hP hD hS (w0.length + j) 0 (at_r he) rfl hin hd (fun H1 locs1 hP1 hD1 hS1 => ?_)
  rw [set_r] at hP1 hD1
  exact kk F H1 locs1 ls hP1 hD1 hS1 hl
/-- a class that can be made -/
def CN (own C : String) (T : u_T) (ty0 : Nat → FieldType) (N ci ix : Nat) : Prop := vwCl[ci]? = some (C, T, N) ∧ (∀ w ∈ u_ws C T N, w ∈ tb0) ∧ (∀ k, k < N → parseFieldDescriptor (T k).2.2.1 = some (ty0 k)) ∧ Cond.classLink own ix C ∈ tb0 ∧ Cond.instantiable C N ∈ tb0 ∧ Cond.initialized C ∈ tb0
theorem l_new {C : String} {T : u_T} {ty0 : Nat → FieldType} {N ci ix : Nat} {fs : List Value} (cn0 : CN own C T ty0 N ci ix) (hd : decode cc pc = .ok (.new ix, 3)) (hn : pc + 3 = pc') (hfs : ∀ j, j < N → defaultValue (ty0 j) = vp_V fs j) (hc : cn + 1 ≤ (xR X).cells) (hs : sn + N ≤ (xR X).slots) (kk : ∀ q : Nat, WL X g own nL cc pc' L (.ref q :: st) w0 (w ++ [(q, .inr (ci, fs))]) (cn + 1) (sn + N)) : WL X g own nL cc pc L st w0 w cn sn := by
  subst hn
  intro F H locs ls hP hD hS hl
  obtain ⟨hx, hb, hml, hown, hts, hpx, hK, hA, hFS⟩ := id F
  obtain ⟨n1, n2, n3, n4, n5, n6⟩ := cn0
  refine va_new (ci := ci) (fs := fs) (C := C) (T := T) (N := N) hx hb hts n2 ty0 n3 hown (hts _ n4) (hts _ n5) (hts _ n6) hK hP hD hS hA n1 hfs hc hs hd (fun q H1 hP1 hD1 hS1 => ?_)
  rw [List.append_assoc] at hP1 hD1
  exact kk q F H1 locs ls hP1 hD1 hS1 hl
theorem kty_ri {D : va_G} {ks : KS} {s : State} (hK : va_K D vwCl (kty ks) s) : va_RA s ks.1 .int ∧ va_RA s ks.2.1 .boolean ∧ va_RA s ks.2.2 (.array .int) := ⟨(hK.2 0 _ rfl).2, (hK.2 1 _ rfl).2, (hK.2 2 _ rfl).2⟩
theorem l_newa {n : Int32} {N : Nat} (ha0 : Cond.arrayClass .int ∈ tb0) (hd : decode cc pc = .ok (.newarray .int, 2)) (hn : pc + 2 = pc') (hn0 : ¬ n < 0) (hN : n.toNatClampNeg = N) (hby : N * 4 ≤ 536870912) (hc : cn + 1 ≤ (xR X).cells) (hs : sn + N ≤ (xR X).slots) (kk : ∀ q : Nat, WL X g own nL cc pc' L (.ref q :: st) w0 (w ++ [(q, .inl ((lk g).1, N, .inl (fun _ => 0)))]) (cn + 1) (sn + N)) : WL X g own nL cc pc L (.int n :: st) w0 w cn sn := by
  subst hn
  intro F H locs ls hP hD hS hl
  obtain ⟨hx, hb, hml, hown, hts, hpx, hK, hA, hFS⟩ := id F
  refine va_newa (atype := .int) (ty := .int) (a0 := (N, .inl (fun _ => 0))) hx hb (hts _ ha0) rfl hK hP hD hS hA (fun cA => rfl) hn0 hN hby hc hs hd (fun q cA H1 hK1 hP1 hD1 hS1 => ?_)
  have e1 : va_RA (xs X) cA .int := (hK1.2 3 _ rfl).2
  have e2 : cA = (lk g).1 := Option.some.inj ((show _ = some cA from e1).symm.trans (kty_ri hK).1)
  subst e2
  rw [List.append_assoc] at hP1 hD1
  exact kk q F H1 locs ls hP1 hD1 hS1 hl
theorem l_newz {n : Int32} {N : Nat} (ha0 : Cond.arrayClass .boolean ∈ tb0) (hd : decode cc pc = .ok (.newarray .boolean, 2)) (hn : pc + 2 = pc') (hn0 : ¬ n < 0) (hN : n.toNatClampNeg = N) (hby : N * componentBytes .boolean ≤ 536870912) (hc : cn + 1 ≤ (xR X).cells) (hs : sn + N ≤ (xR X).slots) (kk : ∀ q : Nat, WL X g own nL cc pc' L (.ref q :: st) w0 (w ++ [(q, .inl ((lk g).2.1, N, .inl (fun _ => 0)))]) (cn + 1) (sn + N)) : WL X g own nL cc pc L (.int n :: st) w0 w cn sn := by
  subst hn
  intro F H locs ls hP hD hS hl
  obtain ⟨hx, hb, hml, hown, hts, hpx, hK, hA, hFS⟩ := id F
  refine va_newa (atype := .boolean) (ty := .boolean) (a0 := (N, .inl (fun _ => 0))) hx hb (hts _ ha0) rfl hK hP hD hS hA (fun cA => rfl) hn0 hN hby hc hs hd (fun q cA H1 hK1 hP1 hD1 hS1 => ?_)
  have e1 : va_RA (xs X) cA .boolean := (hK1.2 3 _ rfl).2
  have e2 : cA = (lk g).2.1 := Option.some.inj ((show _ = some cA from e1).symm.trans (kty_ri hK).2.1)
  subst e2
  rw [List.append_assoc] at hP1 hD1
  exact kk q F H1 locs ls hP1 hD1 hS1 hl
def MO (own : String) (ix : Nat) : Prop := Cond.methodLink own ix Lib.objectInit ∈ tb0 ∧ Cond.instanceMethod Lib.objectInit ∈ tb0 ∧ Cond.code Lib.objectInit ⟨#[0xb1]⟩ 1 none ∈ tb0
theorem l_obj {ix a : Nat} (mo : MO own ix) (hd : decode cc pc = .ok (.invokespecial ix, 3)) (hn : pc + 3 = pc') (hf : 1 ≤ (xR X).frames) (hL2 : (st.map fun v => v.category).sum + 12 ≤ (xR X).locals) (kk : WL X g own nL cc pc' L st w0 w cn sn) : WL X g own nL cc pc L (.ref a :: st) w0 w cn sn := by
  subst hn
  intro F H locs ls hP hD hS hl
  obtain ⟨hx, hb, hml, hown, hts, hpx, hK, hA, hFS⟩ := id F
  refine W.objInit hx hb hown (hts _ mo.1) (hts _ mo.2.1) (hts _ mo.2.2) rfl (by rw [hml]; exact hl.1) rfl hd hf (by show 2 * 0 + _ + 12 ≤ _; omega) ?_
  exact W.eq (g2 := F0 (xm X) (pc + 3) ls st) rfl (kk F H locs ls hP hD hS hl)
theorem l_max {ix : Nat} {a b : Int32} (hm : MTH own ix Lib.Math.max.name Lib.Math.max.code 2) (hd : decode cc pc = .ok (.invokestatic ix, 3)) (hn : pc + 3 = pc') (hf : 1 ≤ (xR X).frames) (hL2 : (st.map fun v => v.category).sum + 13 ≤ (xR X).locals) (hc : cn ≤ (xR X).cells) (hs : sn ≤ (xR X).slots) (kk : WL X g own nL cc pc' L (.int (if a < b then b else a) :: st) w0 w cn sn) : WL X g own nL cc pc L (.int b :: .int a :: st) w0 w cn sn := by
  subst hn
  intro F H locs ls hP hD hS hl
  obtain ⟨hx, hb, hml, hown, hts, hpx, hK, hA, hFS⟩ := id F
  exact va_mmax hx hb (hml.trans hl.1.symm) hown (hts _ hm.1) (hts _ hm.2.1) (hts _ hm.2.2.1) (hts _ hm.2.2.2) hf hL2 hc hs hd (kk F H locs ls hP hD hS hl)
theorem l_gets {ix : Nat} {host : String} (hd : decode cc pc = .ok (.getstatic ix, 3)) (hn : pc + 3 = pc') (hc : Cond.fieldLinkNest own ix "BallInCup" "FIRST_SETTINGS" "[I" host ∈ nw0) (kk : WL X g own nL cc pc' L (.ref (lt g) :: st) w0 w cn sn) : WL X g own nL cc pc L st w0 w cn sn := by
  subst hn
  intro F H locs ls hP hD hS hl
  obtain ⟨hx, hb, hml, hown, hts, hpx, hK, hA, hFS⟩ := id F
  exact va_getsN hx hb hFS.1 hS hown (va_Nw.use (nest_on rfl) (hpx.1 _ hc)) (fun _ h9 => h9) hd (kk F H locs ls hP hD hS hl)
def CLO (own : String) (ix : Nat) : Prop := Cond.methodLink own ix ⟨"[I", "clone", "()Ljava/lang/Object;"⟩ ∈ tb0 ∧ Cond.sameMethod "[I" "java/lang/Object" "clone" "()Ljava/lang/Object;" ∈ tb0 ∧ Cond.native ⟨"java/lang/Object", "clone", "()Ljava/lang/Object;"⟩ ∈ tb0 ∧ Cond.instanceMethod ⟨"java/lang/Object", "clone", "()Ljava/lang/Object;"⟩ ∈ tb0 ∧ Cond.selects "[I" ⟨"[I", "clone", "()Ljava/lang/Object;"⟩ ⟨"java/lang/Object", "clone", "()Ljava/lang/Object;"⟩ ∈ tb0
theorem l_clone {ix : Nat} (cl : CLO own ix) (hd : decode cc pc = .ok (.invokevirtual ix, 3)) (hn : pc + 3 = pc') (hf : 1 ≤ (xR X).frames) (hL2 : (st.map fun v => v.category).sum + 14 ≤ (xR X).locals) (hc : cn + 1 ≤ (xR X).cells) (hs : sn + 3 ≤ (xR X).slots) (kk : ∀ q : Nat, WL X g own nL cc pc' L (.ref q :: st) w0 (w ++ [(q, .inl ((lk g).1, 3, .inl st3))]) (cn + 1) (sn + 3)) : WL X g own nL cc pc L (.ref (lt g) :: st) w0 w cn sn := by
  subst hn
  intro F H locs ls hP hD hS hl
  obtain ⟨hx, hb, hml, hown, hts, hpx, hK, hA, hFS⟩ := id F
  obtain ⟨-, cell, f2, f3, f4, f5, f6, f7⟩ := hFS
  have eI : (lk g).1 = cell.cls := Option.some.inj ((va_nm_int (kty_ri hK).1).symm.trans f4)
  have hsz : cell.slots.size = 3 := by rw [f3]; exact arrV_size _ _ _
  have hlt := (Array.getElem?_eq_some_iff.mp f2).1
  have hcH : H[lt g]? = some cell := by rw [hS.2.1 (lt g) hlt f7]; exact f2
  have hcellE : ({ cls := cell.cls, slots := cell.slots } : Cell) = vp_cell (lk g).1 (3, .inl st3) := by
    rw [f3, eI]; rfl
  obtain ⟨c0, t0', g1, g2, g3⟩ := Cond.castable_spec (va_Nw.use (A := xa X) rfl hpx.2.2)
  cases f4.symm.trans g1
  intro T hT Xs
  obtain ⟨-, kA, hkA, comp, hkind⟩ := State.isArrayOf_alike Xs.warmed.alike ((hK.2 0 _ rfl).1 0 (fun _ => .null))
  obtain ⟨-, kS, hkS, compS, hkindS⟩ := (hK.2 0 _ rfl).1 0 (fun _ => .null)
  obtain ⟨vm', X', stp⟩ := Xs.cloneArray hx hown (hts _ cl.1) (hts _ cl.2.1) (hts _ cl.2.2.1) (hts _ cl.2.2.2.1) (hts _ cl.2.2.2.2) (a := lt g) (cell := cell) (by rw [hT]; exact hcH) f5 f6 f4 g2 g3
    (fun i v hv => by
      have hk' : T.vm.classes[cell.cls]? = some kA := by rw [← eI]; exact hkA
      have hv2 : fits .int v = true := va_fit (cA := cell.cls) (n := 3) (F := fun j => .int (st3 j)) (fun i _ => rfl) i v (by rw [← f3]; exact hv)
      simpa [State.fitsSlot, State.slotType?, hk', hkind] using hv2)
    (g := F0 (xm X) pc ls (.ref (lt g) :: st)) rfl (by rw [hml]; exact hl.1) rfl (by rw [hb]; exact hd) hf (by show 2 * 0 + _ + 14 ≤ _; omega) hc (by rw [hsz]; exact hs) (hloader := Vm.clonesLoader_of_array (by rw [← eI]; exact hkS) hkindS)
  rw [hcellE, hsz] at X'
  generalize hH1 : H.push (vp_cell (lk g).1 (3, .inl st3)) = H1
  have e1 : H1[H.size]? = some (vp_cell (lk g).1 (3, .inl st3)) := by rw [← hH1, Array.getElem?_push_size]
  have o1 : ∀ q : Nat, q < H.size → H1[q]? = H[q]? := fun q hq => by rw [← hH1, Array.getElem?_push, if_neg (Nat.ne_of_lt hq)]
  have z1 : H1.size = H.size + 1 := by rw [← hH1, Array.size_push]
  have hP1 : va_P (lD g) vwCl ((w0 ++ w) ++ [(H.size, .inl ((lk g).1, 3, .inl st3))]) H1 := (hP.kept (fun k y hy => o1 y.1 ((hP k y hy).lt))).app (fun k y hy => by
      have hz : k < 1 := (List.getElem?_eq_some_iff.mp hy).1
      rw [show k = 0 by omega] at hy
      cases hy
      exact e1)
  have hD1 : va_D (lA g) ((w0 ++ w) ++ [(H.size, .inl ((lk g).1, 3, .inl st3))]) := hD.push hP rfl (hA _ hS.1)
  rw [List.append_assoc] at hP1 hD1
  obtain ⟨t, b1, b2⟩ := kk H.size F H1 locs ls hP1 hD1 ⟨Nat.le_trans hS.1 (by omega), fun y h1 h2 => (o1 y (Nat.lt_of_lt_of_le h1 hS.1)).trans (hS.2.1 y h1 h2), hS.2.2⟩ hl
    ((T.setVm vm').pushCell (vp_cell (lk g).1 (3, .inl st3))) (by rw [← hH1, ← hT]; rfl) X'
  refine ⟨t, stp t ?_, b2⟩
  rw [hcellE, hT]
  exact b1
theorem l_cast {ix p a : Nat} {x : vp_A} (hc : Cond.classLink own ix "[I" ∈ tb0) (hd : decode cc pc = .ok (.checkcast ix, 3)) (hn : pc + 3 = pc') (he : w[p]? = some (a, .inl ((lk g).1, x))) (kk : WL X g own nL cc pc' L (.ref a :: st) w0 w cn sn) : WL X g own nL cc pc L (.ref a :: st) w0 w cn sn := by
  subst hn
  intro F H locs ls hP hD hS hl
  obtain ⟨hx, hb, hml, hown, hts, hpx, hK, hA, hFS⟩ := id F
  exact va_castA hx hb hown (hts _ hc) hP (w0.length + p) (at_r he) (va_nm_int (kty_ri hK).1) hd (kk F H locs ls hP hD hS hl)
/-- a constructor is called: a call site -/
def CSI (own : String) (ix : Nat) (y : MethodName) : Prop := Cond.methodLink own ix y ∈ tb0 ∧ Cond.instanceMethod y ∈ tb0
theorem l_call {y : MethodName} {yc : ByteArray} {n np ix d mc ms : Nat} {a : Nat} {As rest : List Value} {x : Nat × va_E} {Hw : va_W → Prop} {Ret : va_W → Prop} {v : va_W} (c : CS y yc n none np) (ci : CSI own ix y) (hM : ConI y yc n d mc ms (.ref a :: As) x Hw (lk g) Ret) (hnm : y.name = "<init>") (hf : d + 1 ≤ (xR X).frames) (hL2 : 40 * (d + 1) ≤ (xR X).locals) (hc : cn + mc ≤ (xR X).cells) (hs : sn + ms ≤ (xR X).slots) (hd : decode cc pc = .ok (.invokespecial ix, 3)) (hn : pc + 3 = pc') (hnp : As.length = np) (hst : st = As.reverse ++ .ref a :: rest) (hwr : (rest.map fun v => v.category).sum ≤ 8) (hv : w = v ++ [x]) (hh : Hw (w0 ++ v))
    (kk : ∀ w' : va_W, Ret w' → WL X g own nL cc pc' L rest w0 (v ++ w') (cn + mc) (sn + ms)) : WL X g own nL cc pc L st w0 w cn sn := by
  subst hn
  subst hst
  subst hv
  intro F H locs ls hP hD hS hl
  obtain ⟨hx, hb, hml, hown, hts, hpx, hK, hA, hFS⟩ := id F
  rw [← List.append_assoc] at hP hD
  have c4 := c.2.2.2
  have hfree : ∀ q, va_A ((w0 ++ v) ++ [x]) H.size q → lA g q := fun q hq => by
    rcases hq with ⟨k, e, hk⟩ | hq
    · exact hD.2 k _ hk
    · exact hA q (Nat.le_trans hS.1 hq)
  have hG : GoodIn tb0 (Cond.code y yc n none :: tb0) := good1 c.2.1
  refine va_callv (va_runI (b := a) (As := As) (rest := rest) ⟨hx, hb, hml, hown, hts⟩ (hM (xl X) (lD g) H.size (lt g) (w0 ++ v) hh) (cwI np hts hG rfl rfl rfl (hts _ c.2.2.1) (hts _ ci.1) (hts _ ci.2) hnm c.1 ⟨by show d + 1 ≤ _; omega, by show 8 + (n + 11) + 40 * d ≤ _; omega⟩) ⟨fun a U f mk q => ?_, fun U hU hW => ⟨rfl, ?_⟩⟩ rfl hnp hl.1 rfl (by show 2 * 0 + _ ≤ 8; omega) hd ⟨hc, hs⟩) hS (fun q _ h => hfree q h) hfree (fun u t H1 locs1 ht hvm hp hB hz1 hk1 hS1 => ?_)
  · obtain ⟨q0, q1, qP, qD, qK, qX, qF⟩ := q
    exact ⟨q0, q1, qP, qD, va_K.moved (u := U) (U := U.calling f mk a) (Vm.Alike.refl U.vm) qK, PX.same (u := U) (U := U.calling f mk a) rfl qX, qF.go (U := U.calling f mk a) (Vm.Alike.refl U.vm) (fun _ _ _ => rfl) (fun _ z => z)⟩
  · refine ⟨by rw [hU], by rw [hU]; exact hP, hD.weaken (fun _ _ _ _ => trivial), va_K.moved hW.alike hK, hpx.warm hW, ?_⟩
    rw [hU]
    exact hFS.go hW.alike (fun a h1 h2 => hS.2.1 a h1 h2) hfree
  · have h1 : va_P (lD g) vwCl ((w0 ++ v) ++ u) H1 := by rw [← ht]; exact hB.1
    have h2 : va_D (lA g) ((w0 ++ v) ++ u) := hB.2.weaken (fun k q _ h => hfree _ h)
    rw [List.append_assoc] at h1 h2
    exact kk u hp F H1 locs1 ls h1 h2 hS1 hl
theorem l_vret {d mc ms : Nat} {Ret : va_W → Prop} (hq : RL2 X g w0 d mc ms Ret) (hd : decode cc pc = .ok (.return_, 1)) (hr : Ret w) : WL X g own nL cc pc L [] w0 w mc ms := by
  intro F H locs ls hP hD hS hl
  obtain ⟨hx, hb, hml, hown, hts, hpx, hK, hA, hFS⟩ := id F
  obtain ⟨q1, q2, q3, q4, q5⟩ := hq
  rw [q1]
  exact W.vret hx hb q2 (fun t ht hW => ⟨⟨w, rfl, hr, by rw [ht]; exact hP, hD⟩, hS.F ht⟩) hS.2.2 hd q3
end LROWS
