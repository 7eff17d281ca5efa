/-! ===== the world: 113 cells by number; h says where each lies, mu what each holds ===== -/
abbrev AV : Type := Int32 ⊕ (Int64 ⊕ (Nat ⊕ Nat))
abbrev vI (x : Int32) : AV := Sum.inl x
abbrev vJ (x : Int64) : AV := Sum.inr (Sum.inl x)
abbrev vC (k : Nat) : AV := Sum.inr (Sum.inr (Sum.inl k))
abbrev vR (a : Nat) : AV := Sum.inr (Sum.inr (Sum.inr a))
def cv (h : Nat → Nat) : AV → Value
  | .inl x => .int x
  | .inr (.inl x) => .long x
  | .inr (.inr (.inl k)) => .ref (h k)
  | .inr (.inr (.inr a)) => .ref a
def cat2 : AV → Bool
  | .inr (.inl _) => true
  | _ => false
abbrev Mu : Type := Nat → Nat → Int32
def upM (mu : Mu) (k : Nat) (f : Nat → Int32) : Mu := fun j => if j = k then f else mu j
abbrev Sh : Type := (Nat × List (Option Nat)) ⊕ (Nat ⊕ (Nat × Nat))
def NC : Nat := 113
def shL : List Sh := [.inl (8, [some 1, some 27, none, some 53, some 55, some 59, some 70, some 86]),
  .inl (4, [some 2, some 3, some 9, some 17]),
  .inr (.inl 3),
  .inl (6, [some 4, none, none]),
  .inr (.inr (4, 5)),
  .inr (.inl 5),
  .inr (.inl 5),
  .inr (.inl 5),
  .inr (.inl 5),
  .inl (6, [some 10, none, none]),
  .inr (.inr (6, 11)),
  .inr (.inl 3),
  .inr (.inl 3),
  .inr (.inl 3),
  .inr (.inl 3),
  .inr (.inl 3),
  .inr (.inl 3),
  .inl (6, [some 18, none, none]),
  .inr (.inr (8, 19)),
  .inr (.inl 4),
  .inr (.inl 4),
  .inr (.inl 4),
  .inr (.inl 4),
  .inr (.inl 4),
  .inr (.inl 4),
  .inr (.inl 4),
  .inr (.inl 4),
  .inl (4, [some 28, some 29, some 35, some 43]),
  .inr (.inl 3),
  .inl (6, [some 30, none, none]),
  .inr (.inr (4, 31)),
  .inr (.inl 5),
  .inr (.inl 5),
  .inr (.inl 5),
  .inr (.inl 5),
  .inl (6, [some 36, none, none]),
  .inr (.inr (6, 37)),
  .inr (.inl 3),
  .inr (.inl 3),
  .inr (.inl 3),
  .inr (.inl 3),
  .inr (.inl 3),
  .inr (.inl 3),
  .inl (6, [some 44, none, none]),
  .inr (.inr (8, 45)),
  .inr (.inl 4),
  .inr (.inl 4),
  .inr (.inl 4),
  .inr (.inl 4),
  .inr (.inl 4),
  .inr (.inl 4),
  .inr (.inl 4),
  .inr (.inl 4),
  .inl (7, [some 1, some 54, none, none, none, none, none, none, none, none, none, none, none, none, none, none, none]),
  .inl (1, [some 9, none, none, none, none, none, none, none, none]),
  .inl (0, [some 56, some 57, some 58, none, none]),
  .inr (.inl 90),
  .inr (.inl 90),
  .inr (.inl 90),
  .inl (2, [some 60]),
  .inr (.inr (9, 61)),
  .inr (.inl 181),
  .inr (.inl 181),
  .inr (.inl 181),
  .inr (.inl 181),
  .inr (.inl 181),
  .inr (.inl 181),
  .inr (.inl 181),
  .inr (.inl 181),
  .inr (.inl 181),
  .inl (3, [some 71, none, none, none, some 72, some 78]),
  .inr (.inl 60),
  .inl (6, [some 73, none, none]),
  .inr (.inr (4, 74)),
  .inr (.inl 5),
  .inr (.inl 5),
  .inr (.inl 5),
  .inr (.inl 5),
  .inl (6, [some 79, none, none]),
  .inr (.inr (6, 80)),
  .inr (.inl 3),
  .inr (.inl 3),
  .inr (.inl 3),
  .inr (.inl 3),
  .inr (.inl 3),
  .inr (.inl 3),
  .inl (5, [some 87, some 88, some 89]),
  .inr (.inl 4),
  .inr (.inl 4),
  .inr (.inr (4, 90)),
  .inr (.inl 24),
  .inr (.inl 24),
  .inr (.inl 24),
  .inr (.inl 24),
  .inl (9, [some 95, none, some 96, none, some 97, none, some 98, some 99, none, none, none, some 100, some 101, some 102, some 103, none, none, none, none, none, none, none, none, none, none, none, none, none, none, none, none, some 104, some 105, some 106, some 107, some 108, none, some 109, some 110, some 111, some 112]),
  .inr (.inl 3),
  .inr (.inl 20),
  .inr (.inl 18),
  .inr (.inl 32),
  .inr (.inl 60),
  .inr (.inl 20),
  .inr (.inl 900),
  .inr (.inl 100),
  .inr (.inl 100),
  .inr (.inl 90),
  .inr (.inl 90),
  .inr (.inl 90),
  .inr (.inl 1629),
  .inr (.inl 80),
  .inr (.inl 4),
  .inr (.inl 4),
  .inr (.inl 96),
  .inr (.inl 24)]
def aty (k : Nat) : FieldType := if k = 57 then .boolean else if k ∈ ([4, 10, 18, 30, 36, 44, 60, 73, 79, 89] : List Nat) then .array .int else .int
def sh (k : Nat) : Sh := shL.getD k (.inr (.inl 0))
def mkF (h : Nat → Nat) (f : Nat → Int32) : Nat → List (Option Nat) → List Value
  | _, [] => []
  | i, some j :: r => .ref (h j) :: mkF h f (i + 1) r
  | i, none :: r => .int (f i) :: mkF h f (i + 1) r
def cellE (h : Nat → Nat) (cA : Nat → ClassId) (k : Nat) (f : Nat → Int32) : Sh → va_E
  | .inl (ci, fs) => .inr (ci, mkF h f 0 fs)
  | .inr (.inl n) => .inl (cA k, n, .inl f)
  | .inr (.inr (n, b)) => .inl (cA k, n, .inr (.inr (.inr (.inr (fun i => if i < n then some (h (b + i)) else none)))))
def wd (h : Nat → Nat) (cA : Nat → ClassId) (mu : Mu) : va_W := (List.range NC).map (fun k => (h k, cellE h cA k (mu k) (sh k)))
def tyz (cA : Nat → ClassId) : List (ClassId × FieldType) := (List.range NC).map (fun k => (cA k, aty k))
theorem wd_at {h : Nat → Nat} {cA : Nat → ClassId} {mu : Mu} {k : Nat} (hk : k < NC) : (wd h cA mu)[k]? = some (h k, cellE h cA k (mu k) (sh k)) := by
  unfold wd
  rw [List.getElem?_map, List.getElem?_range hk]
  rfl
theorem wd_len {h : Nat → Nat} {cA : Nat → ClassId} {mu : Mu} : (wd h cA mu).length = NC := by
  unfold wd
  rw [List.length_map, List.length_range]
theorem wd_no {h : Nat → Nat} {cA : Nat → ClassId} {mu : Mu} {k : Nat} (hk : ¬ k < NC) : (wd h cA mu)[k]? = none := List.getElem?_eq_none (by rw [wd_len]; omega)
theorem wd_set {h : Nat → Nat} {cA : Nat → ClassId} {mu : Mu} {k : Nat} (hk : k < NC) (f : Nat → Int32) : (wd h cA mu).set k (h k, cellE h cA k f (sh k)) = wd h cA (upM mu k f) := by
  apply List.ext_getElem?
  intro j
  by_cases e : j = k
  · subst e
    rw [List.getElem?_set_self (by rw [wd_len]; exact hk), wd_at hk]
    simp [upM]
  · rw [List.getElem?_set_ne (Ne.symm e)]
    by_cases hj : j < NC
    · rw [wd_at hj, wd_at hj]
      simp [upM, e]
    · rw [wd_no hj, wd_no hj]
theorem tyz_at {cA : Nat → ClassId} {k : Nat} (hk : k < NC) : (tyz cA)[k]? = some (cA k, aty k) := by
  unfold tyz
  rw [List.getElem?_map, List.getElem?_range hk]
  rfl
theorem mkF_int {h : Nat → Nat} {f : Nat → Int32} : ∀ (fs : List (Option Nat)) (i j : Nat), fs[j]? = some none → (mkF h f i fs)[j]? = some (.int (f (i + j)))
  | [], _, _, e => by simp at e
  | none :: r, i, 0, _ => rfl
  | none :: r, i, j + 1, e => by
    have := mkF_int (h := h) (f := f) r (i + 1) j e
    rw [show i + (j + 1) = i + 1 + j by omega]
    exact this
  | some q :: r, i, 0, e => by simp at e
  | some q :: r, i, j + 1, e => by
    have := mkF_int (h := h) (f := f) r (i + 1) j e
    rw [show i + (j + 1) = i + 1 + j by omega]
    exact this
theorem mkF_ref {h : Nat → Nat} {f : Nat → Int32} {q : Nat} : ∀ (fs : List (Option Nat)) (i j : Nat), fs[j]? = some (some q) → (mkF h f i fs)[j]? = some (.ref (h q))
  | [], _, _, e => by simp at e
  | none :: r, i, 0, e => by simp at e
  | none :: r, i, j + 1, e => mkF_ref (h := h) (f := f) r (i + 1) j e
  | some q :: r, i, 0, e => by
    have e2 : q = _ := Option.some.inj (Option.some.inj e)
    subst e2
    rfl
  | some q :: r, i, j + 1, e => mkF_ref (h := h) (f := f) r (i + 1) j e
theorem mkF_len {h : Nat → Nat} {f : Nat → Int32} : ∀ (fs : List (Option Nat)) (i : Nat), (mkF h f i fs).length = fs.length
  | [], _ => rfl
  | none :: r, i => congrArg (· + 1) (mkF_len r (i + 1))
  | some q :: r, i => congrArg (· + 1) (mkF_len r (i + 1))
theorem mkF_cong {h : Nat → Nat} {f g : Nat → Int32} : ∀ (fs : List (Option Nat)) (i : Nat), (∀ j, i ≤ j → f j = g j) → mkF h f i fs = mkF h g i fs
  | [], _, _ => rfl
  | none :: r, i, e => by
    show Value.int (f i) :: mkF h f (i + 1) r = Value.int (g i) :: mkF h g (i + 1) r
    rw [e i (Nat.le_refl i), mkF_cong r (i + 1) (fun j hj => e j (by omega))]
  | some q :: r, i, e => by
    show Value.ref (h q) :: mkF h f (i + 1) r = Value.ref (h q) :: mkF h g (i + 1) r
    rw [mkF_cong r (i + 1) (fun j hj => e j (by omega))]
theorem mkF_set {h : Nat → Nat} {f : Nat → Int32} {v : Int32} : ∀ (fs : List (Option Nat)) (i j : Nat), fs[j]? = some none → (mkF h f i fs).set j (.int v) = mkF h (upd f (i + j) v) i fs
  | [], _, _, e => by simp at e
  | none :: r, i, 0, _ => by
    show Value.int v :: mkF h f (i + 1) r = Value.int (upd f i v i) :: mkF h (upd f i v) (i + 1) r
    rw [show upd f i v i = v from if_pos rfl, mkF_cong (g := upd f i v) r (i + 1) (fun j hj => (if_neg (by omega)).symm)]
  | none :: r, i, j + 1, e => by
    show Value.int (f i) :: (mkF h f (i + 1) r).set j (.int v) = Value.int (upd f (i + (j + 1)) v i) :: mkF h (upd f (i + (j + 1)) v) (i + 1) r
    rw [mkF_set r (i + 1) j e, show i + 1 + j = i + (j + 1) by omega, show upd f (i + (j + 1)) v i = f i from if_neg (by omega)]
  | some q :: r, i, 0, e => by simp at e
  | some q :: r, i, j + 1, e => by
    show Value.ref (h q) :: (mkF h f (i + 1) r).set j (.int v) = Value.ref (h q) :: mkF h (upd f (i + (j + 1)) v) (i + 1) r
    rw [mkF_set r (i + 1) j e, show i + 1 + j = i + (j + 1) by omega]
/-! ===== locals by slot ===== -/
def getL (i : Nat) : List (Nat × AV) → Option AV
  | [] => none
  | (j, v) :: r => if j = i then some v else getL i r
def stL (i : Nat) (v : AV) : List (Nat × AV) → List (Nat × AV)
  | [] => [(i, v)]
  | (j, w) :: r => if j = i then (i, v) :: r.filter (fun q => !(q.1 == i)) else if i < j then (i, v) :: (j, w) :: r.filter (fun q => !(q.1 == i)) else (j, w) :: stL i v r
def cleanL (i : Nat) (L : List (Nat × AV)) : Bool := L.all (fun q => !(q.1 + 1 == i && cat2 q.2))
def mpL (h : Nat → Nat) (L : List (Nat × AV)) : List (Nat × Value) := L.map (fun q => (q.1, cv h q.2))
theorem getL_mem {i : Nat} {v : AV} : ∀ {L : List (Nat × AV)}, getL i L = some v → (i, v) ∈ L
  | [], e => by simp [getL] at e
  | (j, w) :: r, e => by
    unfold getL at e
    by_cases hj : j = i
    · rw [if_pos hj] at e
      cases e
      rw [hj]
      exact List.mem_cons_self
    · rw [if_neg hj] at e
      exact List.mem_cons_of_mem _ (getL_mem e)
theorem lv_get {ls : Array Slot} {nL : Nat} {h : Nat → Nat} {L : List (Nat × AV)} {i : Nat} {v : AV} (hl : lv_has ls nL (mpL h L)) (e : getL i L = some v) : ls[i]? = some (.val (cv h v)) :=
  hl.2.2 (i, cv h v) (List.mem_map.mpr ⟨(i, v), getL_mem e, rfl⟩)
theorem stL_mem {i : Nat} {v : AV} {q : Nat × AV} : ∀ {L : List (Nat × AV)}, q ∈ stL i v L → q = (i, v) ∨ (q ∈ L ∧ (q.1 ≠ i))
  | [], e => by
    simp [stL] at e
    exact Or.inl e
  | (j, w) :: r, e => by
    unfold stL at e
    by_cases hj : j = i
    · rw [if_pos hj] at e
      rcases List.mem_cons.mp e with e | e
      · exact Or.inl e
      · have := List.mem_filter.mp e
        exact Or.inr ⟨List.mem_cons_of_mem _ this.1, by simpa using this.2⟩
    · rw [if_neg hj] at e
      by_cases hi : i < j
      · rw [if_pos hi] at e
        rcases List.mem_cons.mp e with e | e
        · exact Or.inl e
        · rcases List.mem_cons.mp e with e | e
          · exact Or.inr ⟨by rw [e]; exact List.mem_cons_self, by rw [e]; exact hj⟩
          · have := List.mem_filter.mp e
            exact Or.inr ⟨List.mem_cons_of_mem _ this.1, by simpa using this.2⟩
      · rw [if_neg hi] at e
        rcases List.mem_cons.mp e with e | e
        · exact Or.inr ⟨by rw [e]; exact List.mem_cons_self, by rw [e]; exact hj⟩
        · rcases stL_mem e with e | e
          · exact Or.inl e
          · exact Or.inr ⟨List.mem_cons_of_mem _ e.1, e.2⟩
theorem cat_cv {h : Nat → Nat} {v : AV} : ((cv h v).category == 2) = cat2 v := by
  rcases v with x | x | k | a <;> rfl
theorem lv_stL {ls : Array Slot} {nL : Nat} {h : Nat → Nat} {L : List (Nat × AV)} {i : Nat} {v : AV} (hc : cleanL i L = true) (hl : lv_has ls nL ((i, cv h v) :: (mpL h L).filter (fun q => !(q.1 == i) && !(q.1 + 1 == i && q.2.category == 2)))) : lv_has ls nL (mpL h (stL i v L)) := by
  refine ⟨hl.1, hl.2.1, fun q hq => ?_⟩
  obtain ⟨q0, hq0, rfl⟩ := List.mem_map.mp hq
  rcases stL_mem hq0 with e | ⟨e1, e2⟩
  · rw [e]
    exact hl.2.2 _ List.mem_cons_self
  · refine hl.2.2 _ (List.mem_cons_of_mem _ (List.mem_filter.mpr ⟨List.mem_map.mpr ⟨q0, e1, rfl⟩, ?_⟩))
    have := List.all_eq_true.mp hc q0 e1
    simp only [cat_cv, this, Bool.and_true]
    simpa using e2
/-! ===== the words ===== -/
def tb0 : List Cond := lw_tbl.filter goodWord
def isNest : Cond → Bool
  | .fieldLinkNest .. => true
  | .methodLinkNest .. => true
  | _ => false
def nw0 : List Cond := lw_tbl.filter isNest
theorem mem0 {w : Cond} {i : Nat} (h : lw_tbl[i]? = some w) (hg : goodWord w = true) : w ∈ tb0 := List.mem_filter.mpr ⟨List.mem_of_getElem? h, hg⟩
theorem memN {w : Cond} {i : Nat} (h : lw_tbl[i]? = some w) (hg : isNest w = true) : w ∈ nw0 := List.mem_filter.mpr ⟨List.mem_of_getElem? h, hg⟩
theorem good0 {w : Cond} (h : w ∈ tb0) : w ∈ tb0 ∧ ((w.onTables && w.keeps) = true ∨ ∃ ty, w = .arrayClass ty) := ⟨h, good_of_word (List.mem_filter.mp h).2⟩
theorem nest_on {w : Cond} (h : isNest w = true) : w.onTables = true := by
  cases w <;> first | rfl | (simp [isNest] at h)
theorem nw_warm {s U : State} (hW : s.WarmedH U.vm) (h : ∀ w ∈ nw0, va_Nw w s) : ∀ w ∈ nw0, va_Nw w U := by
  intro w hw
  have h1 := h w hw
  have h2 : isNest w = true := (List.mem_filter.mp hw).2
  cases w with
  | fieldLinkNest a i b n d x => exact va_Nw.warmF hW h1
  | methodLinkNest a i y x => exact va_Nw.warmM hW h1
  | _ => simp [isNest] at h2
def rm (d : Nat) : Room := { frames := d, cells := 0, slots := 0, locals := 40 * d }
