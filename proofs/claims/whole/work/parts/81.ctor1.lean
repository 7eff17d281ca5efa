/-! ===== new int[n][k] ===== -/
theorem mo_outer (c : ClassId) (N h0 : Nat) : ∀ i : Nat, Jvm.Free.Multi.outerC c N h0 i = arrV c N (fun j => va_rf (if j < i then some (h0 + 1 + j) else none))
  | 0 => by
    show ({ cls := c, slots := Array.replicate N .null, vm := .none } : Cell) = _
    rw [arrV_new]
    refine congrArg (arrV c N) (funext fun j => ?_)
    simp [va_rf]
  | i + 1 => by
    show (Jvm.Free.Multi.outerC c N h0 i).setSlot i (.ref (h0 + 1 + i)) = _
    rw [mo_outer c N h0 i, arrV_store]
    refine congrArg (arrV c N) (funext fun j => ?_)
    by_cases e : j = i
    · subst e
      simp [updV, va_rf]
    · by_cases h : j < i
      · simp [updV, e, h, Nat.lt_succ_of_lt h]
      · simp [updV, e, h, show ¬ j < i + 1 by omega]
theorem mo_inner (c : ClassId) (K : Nat) : Jvm.Free.Multi.innerC c K (defaultValue .int) = vp_cell c (K, .inl (fun _ => 0)) := by
  show ({ cls := c, slots := Array.replicate K (.int 0), vm := .none } : Cell) = arrV c K (fun _ => .int 0)
  rw [arrV_new]
abbrev e_out (ks : KS) (N : Nat) (r : Nat → Nat) : va_E := .inl (ks.2.2, N, .inr (.inr (.inr (.inr (fun i => if i < N then some (r i) else none)))))
abbrev e_row (ks : KS) (K : Nat) : va_E := .inl (ks.1, K, .inl (fun _ => 0))
def l_rows (ks : KS) (N K q : Nat) (r : Nat → Nat) : va_W := (q, e_out ks N r) :: (List.range N).map (fun i => (r i, e_row ks K))
section LMNA
variable {X : CX} {g : GL} {own : String} {nL : Nat} {cc : ByteArray} {pc pc' : Nat} {L L' : List (Nat × Value)} {st : List Value} {w0 w w' : va_W} {cn sn : Nat}
theorem l_mna {ix : Nat} {n k : Int32} {N K : Nat} (hc0 : Cond.classLink own ix "[[I" ∈ tb0) (ha0 : Cond.arrayClass .int ∈ tb0) (hd : decode cc pc = .ok (.multianewarray ix 2, 4)) (hn : pc + 4 = pc') (hn0 : ¬ n < 0) (hk0 : ¬ k < 0) (hN : n.toNatClampNeg = N) (hK0 : k.toNatClampNeg = K) (hb1 : N * 4 ≤ 536870912) (hb2 : K * 4 ≤ 536870912) (hc : cn + (1 + N) ≤ (xR X).cells) (hs : sn + (N + N * K) ≤ (xR X).slots)
    (kk : ∀ (q : Nat) (r : Nat → Nat), WL X g own nL cc pc' L (.ref q :: st) w0 (w ++ l_rows (lk g) N K q r) (cn + 1 + N) (sn + N + N * K)) : WL X g own nL cc pc L (.int k :: .int n :: st) w0 w cn sn := by
  subst hn
  subst hN
  subst hK0
  intro F H locs ls hP hD hS hl
  obtain ⟨hx, hb, hml, hown, hts, hpx, hK, hA, hFS⟩ := id F
  intro T hT Xs
  have hlk : (Cond.classLink own ix ("[" ++ (FieldType.array .int).toString)).before (xa X) (xs X) = true := by
    rw [show "[" ++ (FieldType.array .int).toString = "[[I" by decide +kernel]
    exact hts _ hc0
  obtain ⟨vm₁, cA, comp, -, fA, fC, hO, -, X', step⟩ := Xs.multianewarray2F hx hown hlk (va_AOA.use hpx.2.1) (hts _ ha0) (g := F0 (xm X) pc ls (.int k :: .int n :: st)) rfl (by rw [hb]; exact hd) rfl hn0 hk0 hb1 hb2 (by omega) rfl rfl hc hs
  have eQ : cA = (lk g).2.2 := Option.some.inj (fA.symm.trans (kty_ri hK).2.2)
  have eI : comp = (lk g).1 := Option.some.inj (fC.symm.trans (kty_ri hK).1)
  subst eQ
  subst eI
  generalize hF : Jvm.Free.Multi.fill (T.setVm vm₁) (lk g).2.2 (lk g).1 n.toNatClampNeg k.toNatClampNeg (defaultValue .int) n.toNatClampNeg = FF at X' step
  have hTh : (T.setVm vm₁).heap = H := hT
  obtain ⟨f1, f2, -, -⟩ := Jvm.Free.Multi.fill_facts (T.setVm vm₁) (lk g).2.2 (lk g).1 n.toNatClampNeg k.toNatClampNeg (defaultValue .int) n.toNatClampNeg
  rw [hF, hTh] at f1 f2
  have hold : ∀ x : Nat, x < H.size → FF.heap[x]? = H[x]? := fun x hx => by
    have := Jvm.Free.Multi.fill_old (T.setVm vm₁) (lk g).2.2 (lk g).1 n.toNatClampNeg k.toNatClampNeg (defaultValue .int) (a := x) (by rw [hTh]; exact hx) n.toNatClampNeg
    rw [hF, hTh] at this
    exact this
  have hrow : ∀ j : Nat, j < n.toNatClampNeg → FF.heap[H.size + 1 + j]? = some (vp_cell (lk g).1 (k.toNatClampNeg, .inl (fun _ => 0))) := fun j hj => by
    have := Jvm.Free.Multi.fill_inner (T.setVm vm₁) (lk g).2.2 (lk g).1 n.toNatClampNeg k.toNatClampNeg (defaultValue .int) n.toNatClampNeg j hj
    rw [hF, hTh, mo_inner] at this
    exact this
  have hout : Jvm.Free.Multi.outerC (lk g).2.2 n.toNatClampNeg H.size n.toNatClampNeg = vp_cell (lk g).2.2 (n.toNatClampNeg, .inr (.inr (.inr (.inr (fun i => if i < n.toNatClampNeg then some (H.size + 1 + i) else none))))) := by
    rw [vp_cell_q]
    exact mo_outer (lk g).2.2 n.toNatClampNeg H.size n.toNatClampNeg
  rw [hout] at f2
  have hat : ∀ (k9 : Nat) (x : Nat × va_E), (l_rows (lk g) n.toNatClampNeg k.toNatClampNeg H.size (fun i => H.size + 1 + i))[k9]? = some x → x.1 = H.size + k9 ∧ va_at (lD g) vwCl x FF.heap := fun k9 x hx => by
    cases k9 with
    | zero =>
      cases hx
      exact ⟨rfl, f2⟩
    | succ j =>
      have hx2 : ((List.range n.toNatClampNeg).map (fun i => ((H.size + 1 + i, e_row (lk g) k.toNatClampNeg) : Nat × va_E)))[j]? = some x := hx
      rw [List.getElem?_map] at hx2
      by_cases h9 : j < n.toNatClampNeg
      · rw [List.getElem?_range h9] at hx2
        cases hx2
        exact ⟨by show H.size + 1 + j = _; omega, hrow j h9⟩
      · rw [List.getElem?_eq_none (by rw [List.length_range]; omega)] at hx2
        cases hx2
  have hP1 : va_P (lD g) vwCl ((w0 ++ w) ++ l_rows (lk g) n.toNatClampNeg k.toNatClampNeg H.size (fun i => H.size + 1 + i)) FF.heap := (hP.kept (fun k9 x hx => hold x.1 ((hP k9 x hx).lt))).app (fun k9 x hx => (hat k9 x hx).2)
  have hD1 : va_D (lA g) ((w0 ++ w) ++ l_rows (lk g) n.toNatClampNeg k.toNatClampNeg H.size (fun i => H.size + 1 + i)) := hD.app ⟨fun i j p q hp hq e => by have h1 := (hat i p hp).1; have h2 := (hat j q hq).1; omega, fun k9 q hq => hA _ (by have h1 := (hat k9 q hq).1; have := hS.1; omega)⟩ (fun i j p q hp hq e => by have h1 := (hP i p hp).lt; have h2 := (hat j q hq).1; omega)
  rw [List.append_assoc] at hP1 hD1
  obtain ⟨t, a1, b1⟩ := kk H.size (fun i => H.size + 1 + i) F FF.heap locs ls hP1 hD1 ⟨by rw [f1]; have := hS.1; omega, fun x h1 h2 => (hold x (Nat.lt_of_lt_of_le h1 hS.1)).trans (hS.2.1 x h1 h2), hS.2.2⟩ hl FF rfl X'
  refine ⟨t, step t ?_, b1⟩
  have e : T.heap.size = H.size := by rw [hT]
  rw [e]
  exact a1
end LMNA
