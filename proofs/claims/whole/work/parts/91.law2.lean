/-! ===== the law: its loop, its start ===== -/
theorem mu0_rel : Rel mu0 := by
  refine ⟨0, 0, 0, ⟨SR.mk ⟨⟨⟨by decide, by decide⟩, ⟨by decide, by decide⟩, ⟨by decide, by decide⟩⟩, fun j hj => ?_⟩ ⟨⟨by omega, rfl, rfl, fun i hi => by omega⟩, fun i hi => by omega⟩ ⟨⟨by omega, rfl, rfl, fun i hi => by omega⟩, fun i hi => by omega⟩ ⟨⟨by omega, rfl, rfl, fun i hi => by omega⟩, fun i hi => by omega⟩, rfl, rfl, rfl⟩, ⟨⟨⟨rfl, rfl, rfl⟩, ⟨0, by omega, rfl⟩, ⟨0, by omega, rfl⟩, ⟨0, by omega, rfl⟩⟩, Or.inl ⟨rfl, rfl⟩⟩, ⟨⟨0, by omega, rfl, rfl, fun i hi => by omega⟩, rfl, rfl, rfl⟩, fun a ha => Or.inl ?_, ⟨rfl, rfl⟩⟩
  · rcases (show j = 0 ∨ j = 1 ∨ j = 2 by omega) with e | e | e <;> subst e <;> rfl
  · rcases (show a = 0 ∨ a = 1 ∨ a = 2 ∨ a = 3 by omega) with e | e | e | e <;> subst e <;> exact ⟨rfl, rfl⟩
set_option maxHeartbeats 4000000 in
set_option maxRecDepth 100000 in
theorem law_step {X : CX} {g : GX} {b N k : Nat} {zs : Nat → Int32} {mu : Mu} (hr : RM X 9) (hX : SCR X g b N zs) (hk : 6 * k + 6 ≤ N) (hN : N ≤ 3072) (h : Rel mu) (J : ∀ m : Mu, Rel m → WA X g RL 4 cL_law 1268 [(0, vR b), (1, vC 0), (2, vC 94), (3, vI (nI (6 * k)))] [] m) (x : Int32) : WA X g RL 4 cL_law 33 [(0, vR b), (1, vC 0), (2, vC 94), (3, vI (nI (6 * k)))] [vI x] mu := by
  rcases sw32 x with ⟨j, hj, rfl⟩ | hw
  · match j, hj with
    | 0, _ => exact o_tableIn (off := 143) (tgt := 176) dL_law_33 (by decide) (by decide) (by rfl) (by decide) (law_set hr hX hk hN h J)
    | 1, _ => exact o_tableIn (off := 176) (tgt := 209) dL_law_33 (by decide) (by decide) (by rfl) (by decide) (law_cup hr hX hk hN h J)
    | 2, _ => exact o_tableIn (off := 255) (tgt := 288) dL_law_33 (by decide) (by decide) (by rfl) (by decide) (law_told hr hX hk hN h J)
    | 3, _ => exact o_tableIn (off := 288) (tgt := 321) dL_law_33 (by decide) (by decide) (by rfl) (by decide) (law_part hr hX hk hN h J)
    | 4, _ => exact o_tableIn (off := 331) (tgt := 364) dL_law_33 (by decide) (by decide) (by rfl) (by decide) (law_pull hr hX hk hN h J)
    | 5, _ => exact o_tableIn (off := 364) (tgt := 397) dL_law_33 (by decide) (by decide) (by rfl) (by decide) (law_still hr hX hk hN h J)
    | 6, _ => exact o_tableIn (off := 377) (tgt := 410) dL_law_33 (by decide) (by decide) (by rfl) (by decide) (law_type hr hX hk hN h J)
    | 7, _ => exact o_tableIn (off := 440) (tgt := 473) dL_law_33 (by decide) (by decide) (by rfl) (by decide) (law_toy hr hX hk hN h J)
    | 8, _ => exact o_tableIn (off := 453) (tgt := 486) dL_law_33 (by decide) (by decide) (by rfl) (by decide) (law_pulls hr hX hk hN h J)
    | 9, _ => exact o_tableIn (off := 466) (tgt := 499) dL_law_33 (by decide) (by decide) (by rfl) (by decide) (law_at hr hX hk hN h J)
    | 10, _ => exact o_tableIn (off := 499) (tgt := 532) dL_law_33 (by decide) (by decide) (by rfl) (by decide) (law_end hr hX hk hN h J)
    | 11, _ => exact o_tableIn (off := 522) (tgt := 555) dL_law_33 (by decide) (by decide) (by rfl) (by decide) (law_count hr hX hk hN h J)
    | 12, _ => exact o_tableIn (off := 545) (tgt := 578) dL_law_33 (by decide) (by decide) (by rfl) (by decide) (law_ends hr hX hk hN h J)
    | 13, _ => exact o_tableIn (off := 578) (tgt := 611) dL_law_33 (by decide) (by decide) (by rfl) (by decide) (law_cells hr hX hk hN h J)
    | 14, _ => exact o_tableIn (off := 611) (tgt := 644) dL_law_33 (by decide) (by decide) (by rfl) (by decide) (law_middle hr hX hk hN h J)
    | 15, _ => exact o_tableIn (off := 644) (tgt := 677) dL_law_33 (by decide) (by decide) (by rfl) (by decide) (law_mended hr hX hk hN h J)
    | 16, _ => exact o_tableIn (off := 677) (tgt := 710) dL_law_33 (by decide) (by decide) (by rfl) (by decide) (law_odds hr hX hk hN h J)
    | 17, _ => exact o_tableIn (off := 700) (tgt := 733) dL_law_33 (by decide) (by decide) (by rfl) (by decide) (law_which hr hX hk hN h J)
    | 18, _ => exact o_tableIn (off := 713) (tgt := 746) dL_law_33 (by decide) (by decide) (by rfl) (by decide) (law_trick hr hX hk hN h J)
    | 19, _ => exact o_tableIn (off := 766) (tgt := 799) dL_law_33 (by decide) (by decide) (by rfl) (by decide) (law_most hr hX hk hN h J)
    | 20, _ => exact o_tableIn (off := 799) (tgt := 832) dL_law_33 (by decide) (by decide) (by rfl) (by decide) (law_row hr hX hk hN h J)
    | 21, _ => exact o_tableIn (off := 832) (tgt := 865) dL_law_33 (by decide) (by decide) (by rfl) (by decide) (law_clear hr hX hk hN h J)
    | 22, _ => exact o_tableIn (off := 845) (tgt := 878) dL_law_33 (by decide) (by decide) (by rfl) (by decide) (law_cord hr hX hk hN h J)
    | 23, _ => exact o_tableIn (off := 878) (tgt := 911) dL_law_33 (by decide) (by decide) (by rfl) (by decide) (law_down hr hX hk hN h J)
    | 24, _ => exact o_tableIn (off := 911) (tgt := 944) dL_law_33 (by decide) (by decide) (by rfl) (by decide) (law_filmed hr hX hk hN h J)
    | 25, _ => exact o_tableIn (off := 974) (tgt := 1007) dL_law_33 (by decide) (by decide) (by rfl) (by decide) (law_image hr hX hk hN h J)
    | 26, _ => exact o_tableIn (off := 987) (tgt := 1020) dL_law_33 (by decide) (by decide) (by rfl) (by decide) (law_restore hr hX hk hN h J)
    | 27, _ => exact o_tableIn (off := 1000) (tgt := 1033) dL_law_33 (by decide) (by decide) (by rfl) (by decide) (law_film hr hX hk hN h J)
    | 28, _ => exact o_tableIn (off := 1053) (tgt := 1086) dL_law_33 (by decide) (by decide) (by rfl) (by decide) (law_sheet hr hX hk hN h J)
    | 29, _ => exact o_tableIn (off := 1096) (tgt := 1129) dL_law_33 (by decide) (by decide) (by rfl) (by decide) (law_drop hr hX hk hN h J)
    | 30, _ => exact o_tableIn (off := 1119) (tgt := 1152) dL_law_33 (by decide) (by decide) (by rfl) (by decide) (law_item hr hX hk hN h J)
    | 31, _ => exact o_tableIn (off := 1172) (tgt := 1205) dL_law_33 (by decide) (by decide) (by rfl) (by decide) (law_copy hr hX hk hN h J)
    | j + 32, hj => exact absurd hj (by omega)
  · exact o_tableOut (tgt := 1268) dL_law_33 hw (by decide) (J mu h)
set_option maxHeartbeats 4000000 in
set_option maxRecDepth 100000 in
theorem law_loop {X : CX} {g : GX} {b N : Nat} {zs : Nat → Int32} (hr : RM X 9) (hX : SCR X g b N zs) (hN : N ≤ 3072) (hE : ∀ (k : Nat) (mu : Mu), WA X g RL 4 cL_law 1275 [(0, vR b), (1, vC 0), (2, vC 94), (3, vI (nI (6 * k)))] [vI 1] mu) : ∀ (n k : Nat) (mu : Mu), Rel mu → 6 * k ≤ N → N < 6 * k + n → WA X g RL 4 cL_law 18 [(0, vR b), (1, vC 0), (2, vC 94), (3, vI (nI (6 * k)))] [] mu := by
  intro n
  induction n with
  | zero => intro k mu h hk hm; exact absurd hm (by omega)
  | succ n ih =>
    intro k mu h hk hm
    have e6 : (nI N - 6).toInt = (N : Int) - 6 := by
      have h6 : (6 : Int32).toInt = 6 := rfl
      rw [i_sub (by rw [nI_toInt (by omega), h6]; omega) (by rw [nI_toInt (by omega), h6]; omega), nI_toInt (by omega), h6]
    refine o_iload_n dL_law_18 rfl rfl (by rfl) ?_
    refine o_aload_nR dL_law_19 rfl rfl (by rfl) ?_
    refine o_scl hX dL_law_20 rfl ?_
    refine o_bipush (v := 6) dL_law_21 rfl (by decide) ?_
    refine o_isub dL_law_23 rfl ?_
    refine o_icmp_gt (tgt := 1274) dL_law_24 (by decide) rfl (fun c24 => ?_) (fun c24 => ?_)
    · refine o_iconst (v := 1) dL_law_1274 rfl (by decide) ?_
      exact hE k mu
    · have hk2 : 6 * k + 6 ≤ N := by
        have h9 : ¬ (nI N - 6).toInt < (nI (6 * k)).toInt := fun q => c24 ((i_lt _ _).mpr q)
        rw [e6, nI_toInt (by omega)] at h9
        omega
      refine o_aload_nR dL_law_27 rfl rfl (by rfl) ?_
      refine o_iload_n dL_law_28 rfl rfl (by rfl) ?_
      refine o_scr (j := 6 * k) hX dL_law_29 rfl rfl (by omega) hN ?_
      refine o_bipush (v := 31) dL_law_30 rfl (by decide) ?_
      refine o_iand dL_law_32 rfl ?_
      refine law_step hr hX hk2 hN h (fun m hm2 => ?_) _
      refine o_iinc (v := nI (6 * (k + 1))) (L' := [(0, vR b), (1, vC 0), (2, vC 94), (3, vI (nI (6 * (k + 1))))]) dL_law_1268 rfl (by rfl) (nI_add (6 * k) 6) (by decide) (by rfl) (by rfl) ?_
      refine o_goto (tgt := 18) dL_law_1271 (by decide) ?_
      exact ih (k + 1) m hm2 (by omega) (by omega)
theorem cn_L_7 : CN RL RX8 TX8 tyX8 8 8 7 := ⟨rfl, in_X8, tyX8_ok, mem0 (i := 59) (by decide +kernel) rfl, mem0 (i := 60) (by decide +kernel) rfl, mem0 (i := 45) (by decide +kernel) rfl⟩
theorem cn_L_10 : CN RL RX9 TX9 tyX9 41 9 10 := ⟨rfl, in_X9, tyX9_ok, mem0 (i := 802) (by decide +kernel) rfl, mem0 (i := 803) (by decide +kernel) rfl, mem0 (i := 55) (by decide +kernel) rfl⟩
theorem ci_L_9 : CSI RL 9 yX8_init := ⟨mem0 (i := 61) (by decide +kernel) rfl, mem0 (i := 62) (by decide +kernel) rfl⟩
theorem ci_L_12 : CSI RL 12 yX9_init := ⟨mem0 (i := 804) (by decide +kernel) rfl, mem0 (i := 805) (by decide +kernel) rfl⟩
theorem len_sz {args : Array Value} {s : State} {t : Term} {n : Int32} (h : (Term.length t).eval args s none [] s = some (.int n)) : ∃ a cell, t.eval args s none [] s = some (.ref a) ∧ s.arrayAt? a = some cell ∧ cell.slots.size < 2147483648 ∧ n = cell.slots.size.toInt32 := by
  simp only [Term.eval, Option.bind_eq_bind] at h
  cases ht : t.eval args s none [] s with
  | none => simp [ht] at h
  | some x =>
    cases x <;> simp [ht] at h
    case ref a =>
      obtain ⟨cell, hcell, h⟩ := Option.bind_eq_some_iff.mp h
      by_cases hn : cell.slots.size < 2147483648
      · rw [if_pos hn] at h; cases h; exact ⟨a, cell, rfl, hcell, hn, rfl⟩
      · rw [if_neg hn] at h; cases h
theorem three_slots {c : ClassId} {a : Array Value} {f : Nat → Value} (hs : a.size = 3) (h : ∀ j, j < 3 → a[j]? = some (f j)) : a = (arrV c 3 f).slots := by
  apply Array.ext_getElem?
  intro i
  by_cases q : i < 3
  · rw [h i q, arrV_read _ _ q]
  · rw [Array.getElem?_eq_none (by omega), Array.getElem?_eq_none (by rw [arrV_size]; omega)]
abbrev tm_ (n : String) : Term := .static "BallInCup" n "[I"
theorem st_tab {s : State} {b : Nat} {A : Nat → Prop} {n : String} {v0 v1 v2 : Int32} {f : Nat → Int32} (hf0 : f 0 = v0) (hf1 : f 1 = v1) (hf2 : f 2 = v2) (hl : (Cond.laysStatic "BallInCup" n "[I").before #[Value.ref b] s = true) (hi : (Cond.initialized "BallInCup").before #[Value.ref b] s = true) (h1 : (Cond.arrayOf (tm_ n) .int).before #[Value.ref b] s = true) (h2 : (Cond.eq (.length (tm_ n)) (.int 3)).before #[Value.ref b] s = true) (h3 : (Cond.eq (.elem (tm_ n) (.int 0)) (.int v0)).before #[Value.ref b] s = true) (h4 : (Cond.eq (.elem (tm_ n) (.int 1)) (.int v1)).before #[Value.ref b] s = true) (h5 : (Cond.eq (.elem (tm_ n) (.int 2)) (.int v2)).before #[Value.ref b] s = true) (hA : ∀ a : Nat, a < s.heap.size → ¬ A a) :
    ∃ t : Nat, va_Z "BallInCup" n "[I" (.ref t) A s s.heap ∧ va_T .int t 3 (fun j => .int (f j)) A s s.heap ∧ (tm_ n).eval #[Value.ref b] s none [] s = some (.ref t) ∧ ∃ cell : Cell, s.heap[t]? = some cell ∧ cell.slots.size = 3 := by
  have hlen := va_eqt h2
  obtain ⟨t, ht, hT⟩ := va_Tof (N := 3) (f := fun j => .int (f j)) (A := A) (by decide) h1 hlen (fun j hj => by
    match j, hj with
    | 0, _ => rw [hf0]; exact va_eqt h3
    | 1, _ => rw [hf1]; exact va_eqt h4
    | 2, _ => rw [hf2]; exact va_eqt h5
    | j + 3, hj => exact absurd hj (by omega)) hA
  obtain ⟨a, cell, q1, q2, q3, q4⟩ := len_sz hlen
  cases ht.symm.trans q1
  obtain ⟨q5, -, -, -⟩ := State.arrayAt?_spec q2
  refine ⟨t, va_Zof hl hi ht hA, hT, ht, cell, q5, ?_⟩
  have e : (3 : Int32) = nI cell.slots.size := q4
  exact ((nI_eq (a := 3) (by decide) (by omega)).mp e).symm
theorem k_int {args : Array Value} {s : State} {ty : FieldType} (hty : ∀ C, ty ≠ .object C) (h : (Cond.arrayClass ty).before args s = true) : ∃ c, ArrOfT s c ty ∧ va_RA s c ty := by
  obtain ⟨c, k, comp, h1, h2, h3⟩ := Cond.arrayClass_spec h
  refine ⟨c, fun n z => ⟨(fun q hq => by cases hq), k, h2, comp, h3⟩, ?_⟩
  cases ty <;> first | exact h1 | exact absurd rfl (hty _)
theorem k_arr {args : Array Value} {s : State} (h : (Cond.arrayOver (.array .int)).before args s = true) : ∃ c, ArrOfT s c (.array .int) ∧ va_RA s c (.array .int) := by
  obtain ⟨comp, cA, kA, hcomp, hkA, hkindA, hnameA⟩ := Cond.arrayOver_specA h
  exact ⟨cA, fun n z => ⟨(fun q hq => by cases hq), kA, hkA, _, hkindA⟩, hnameA⟩
theorem tyz_ok (ks : KS) : ∀ k, k < NC → (cAk ks k, aty k) = (ks.1, .int) ∨ (cAk ks k, aty k) = (ks.2.1, .boolean) ∨ (cAk ks k, aty k) = (ks.2.2, .array .int) := by
  intro k hk
  unfold cAk aty
  by_cases h1 : k = 57
  · rw [if_pos h1, if_pos h1]; exact Or.inr (Or.inl rfl)
  · rw [if_neg h1, if_neg h1]
    by_cases h2 : k ∈ ([4, 10, 18, 30, 36, 44, 60, 73, 79, 89] : List Nat)
    · rw [if_pos h2, if_pos h2]; exact Or.inr (Or.inr rfl)
    · rw [if_neg h2, if_neg h2]; exact Or.inl rfl
theorem kty_tyz {D : va_G} {ks : KS} {s : State} (h : va_K D vwCl (kty ks) s) : va_K D vwCl (tyz (cAk ks)) s := by
  refine ⟨h.1, fun k q hq => ?_⟩
  by_cases hk : k < NC
  · rw [tyz_at hk] at hq
    cases hq
    rcases tyz_ok ks k hk with e | e | e
    · rw [congrArg Prod.fst e, congrArg Prod.snd e]; exact h.2 0 _ rfl
    · rw [congrArg Prod.fst e, congrArg Prod.snd e]; exact h.2 1 _ rfl
    · rw [congrArg Prod.fst e, congrArg Prod.snd e]; exact h.2 2 _ rfl
  · unfold tyz at hq
    rw [List.getElem?_map, List.getElem?_eq_none (by rw [List.length_range]; omega)] at hq
    cases hq
/-- both made: from the list to the world of 113 cells -/
theorem wl_wa {X : CX} {g : GL} {own : String} {cc : ByteArray} {pc b t0 t1 : Nat} {h8 h9 : Nat → Nat} (hk : xk X = 113) (hn : xn X = 5788) (hSF : SF t0 t1 (lA g) (xs X) (xs X).heap) (kk : WA X (lD g, hJ h8 h9, cAk (lk g), lA g, t0, t1) own 4 cc pc [(0, vR b), (1, vC 0), (2, vC 94)] [] mu0) : WL X g own 4 cc pc [(2, .ref (h9 94)), (1, .ref (h8 0)), (0, .ref b)] [] [] (wdS (lk g) h8 0 94 ++ wdS (lk g) h9 94 19) 113 5788 := by
  intro F H locs ls hP hD hS hl
  obtain ⟨hx, hb, hml, hown, hts, hpx, hK, hA, hFS⟩ := F
  rw [List.nil_append, wd_join] at hP hD
  have hinj : inj (hJ h8 h9) ∧ ∀ k, k < NC → lA g (hJ h8 h9 k) := ⟨fun i j hi hj e => hD.1 i j _ _ (wd_at hi) (wd_at hj) e, fun k hk2 => hD.2 k _ (wd_at hk2)⟩
  have hl2 : lv_has ls 4 (mpL (hJ h8 h9) [(0, vR b), (1, vC 0), (2, vC 94)]) := lv_sub hl [2, 1, 0] rfl
  have h := kk ⟨hx, hb, hml, hown, hts, hpx.1, kty_tyz hK, hinj, hA, hSF⟩ H locs ls hP hS hl2
  rw [hk, hn] at h
  exact h
set_option maxHeartbeats 4000000 in
set_option maxRecDepth 100000 in
/-- YOUR PART -/
theorem whole_start {p : Program} {e : Env} {s : State} {m : MethodId} {below : List Frame} {meth : Method} {c : Code} (l : Launch) (hflags : l.flags = flags0) {b L : Nat} {xs : Nat → Int32} (hL : L ≤ 3072) (C0 : lw_At p s m meth c b L xs) : W p l e room_1 s m #[Value.ref b] below meth c s.heap [] 0 0 (lw_Z below #[Value.ref b] s) (entryFrame m ([Value.ref b] : List Value).toArray 4) := by
  obtain ⟨hx, hb, hr, hml, hown, hts, hXs, hbl, hlocks, hgv⟩ := C0
  have hs := flat_of_before _ hgv
  have htb : ∀ w ∈ tb0, w.before #[Value.ref b] s = true := fun w hw => hts w (List.mem_filter.mp hw).1
  have hA0 : ∀ a : Nat, a < s.heap.size → ¬ (fun q : Nat => s.heap.size ≤ q) a := fun a ha h => by have h9 : s.heap.size ≤ a := h; omega
  obtain ⟨c0, iS0, hKn0⟩ := u_known (C := RX0) (T := TX0) (N := 5) (n := 5) htb in_X0 (htb _ (mem0 (i := 241) (by decide +kernel) rfl))
  obtain ⟨c1, iS1, hKn1⟩ := u_known (C := RX1) (T := TX1) (N := 9) (n := 9) htb in_X1 (htb _ (mem0 (i := 137) (by decide +kernel) rfl))
  obtain ⟨c2, iS2, hKn2⟩ := u_known (C := RX2) (T := TX2) (N := 1) (n := 1) htb in_X2 (htb _ (mem0 (i := 266) (by decide +kernel) rfl))
  obtain ⟨c3, iS3, hKn3⟩ := u_known (C := RX3) (T := TX3) (N := 6) (n := 6) htb in_X3 (htb _ (mem0 (i := 277) (by decide +kernel) rfl))
  obtain ⟨c4, iS4, hKn4⟩ := u_known (C := RX4) (T := TX4) (N := 4) (n := 4) htb in_X4 (htb _ (mem0 (i := 68) (by decide +kernel) rfl))
  obtain ⟨c5, iS5, hKn5⟩ := u_known (C := RX5) (T := TX5) (N := 3) (n := 3) htb in_X5 (htb _ (mem0 (i := 307) (by decide +kernel) rfl))
  obtain ⟨c6, iS6, hKn6⟩ := u_known (C := RX6) (T := TX6) (N := 3) (n := 3) htb in_X6 (htb _ (mem0 (i := 83) (by decide +kernel) rfl))
  obtain ⟨c7, iS7, hKn7⟩ := u_known (C := RX7) (T := TX7) (N := 17) (n := 17) htb in_X7 (htb _ (mem0 (i := 131) (by decide +kernel) rfl))
  obtain ⟨c8, iS8, hKn8⟩ := u_known (C := RX8) (T := TX8) (N := 8) (n := 8) htb in_X8 (htb _ (mem0 (i := 60) (by decide +kernel) rfl))
  obtain ⟨c9, iS9, hKn9⟩ := u_known (C := RX9) (T := TX9) (N := 41) (n := 41) htb in_X9 (htb _ (mem0 (i := 803) (by decide +kernel) rfl))
  obtain ⟨dC, dI, hKc⟩ : ∃ (dC : Nat → ClassId) (dI : Nat → Nat → Nat), ∀ (k : Nat) (q : vw_C), vwCl[k]? = some q → u_Kn s q.1 q.2.1 q.2.2 (dC k) (dI k) := by
    refine ⟨fun k => [c0, c1, c2, c3, c4, c5, c6, c7, c8, c9].getD k 0, fun k => [iS0, iS1, iS2, iS3, iS4, iS5, iS6, iS7, iS8, iS9].getD k (fun _ => 0), ?_⟩
    intro k q hq
    match k, hq with
    | 0, hq => cases hq; exact hKn0
    | 1, hq => cases hq; exact hKn1
    | 2, hq => cases hq; exact hKn2
    | 3, hq => cases hq; exact hKn3
    | 4, hq => cases hq; exact hKn4
    | 5, hq => cases hq; exact hKn5
    | 6, hq => cases hq; exact hKn6
    | 7, hq => cases hq; exact hKn7
    | 8, hq => cases hq; exact hKn8
    | 9, hq => cases hq; exact hKn9
    | k + 10, hq => simp [vwCl] at hq
  obtain ⟨kI, hI1, hI2⟩ := k_int (ty := .int) (fun C h => by cases h) (htb _ ac_int)
  obtain ⟨kZ, hZ1, hZ2⟩ := k_int (ty := .boolean) (fun C h => by cases h) (htb _ ac_boo)
  have hao : (Cond.arrayOver (.array .int)).before #[Value.ref b] s = true := hts _ (List.mem_of_getElem? (i := 92) (by decide +kernel))
  have hca : (Cond.castable "[I" "java/lang/Cloneable").before #[Value.ref b] s = true := hts _ (List.mem_of_getElem? (i := 80) (by decide +kernel))
  obtain ⟨kQ, hQ1, hQ2⟩ := k_arr hao
  have hK : va_K (dC, dI) vwCl (kty (kI, kZ, kQ)) s := ⟨hKc, fun k q hq => by
    match k, hq with
    | 0, hq => cases hq; exact ⟨hI1, hI2⟩
    | 1, hq => cases hq; exact ⟨hZ1, hZ2⟩
    | 2, hq => cases hq; exact ⟨hQ1, hQ2⟩
    | k + 3, hq => simp [kty] at hq⟩
  have hini : (Cond.initialized "BallInCup").before #[Value.ref b] s = true := htb _ cn_L_7.2.2.2.2.2
  have hPX : PX s := ⟨fun w hw => va_Nw.of (nest_on (List.mem_filter.mp hw).2) (hts w (List.mem_filter.mp hw).1), aov_same rfl hao, va_Nw.of rfl hca⟩
  obtain ⟨tS, zS, vS, evS, cellS, clS, szS⟩ := st_tab (A := fun q : Nat => s.heap.size ≤ q) (n := "FIRST_SETTINGS") (v0 := 30) (v1 := 1) (v2 := 6) (f := st3) rfl rfl rfl (hts _ (List.mem_of_getElem? (i := 74) (by decide +kernel))) hini (hs _ (by decide +kernel)) (hs _ (by decide +kernel)) (hs _ (by decide +kernel)) (hs _ (by decide +kernel)) (hs _ (by decide +kernel)) hA0
  obtain ⟨t0, z0, v0, ev0, cell0, cl0, sz0⟩ := st_tab (A := fun q : Nat => s.heap.size ≤ q) (n := "LEAST_SETTINGS") (v0 := 10) (v1 := 1) (v2 := 0) (f := leastS) rfl rfl rfl (hts _ (List.mem_of_getElem? (i := 358) (by decide +kernel))) hini (hs _ (by decide +kernel)) (hs _ (by decide +kernel)) (hs _ (by decide +kernel)) (hs _ (by decide +kernel)) (hs _ (by decide +kernel)) hA0
  obtain ⟨t1, z1, v1, ev1, cell1, cl1, sz1⟩ := st_tab (A := fun q : Nat => s.heap.size ≤ q) (n := "MOST_SETTINGS") (v0 := 60) (v1 := 4) (v2 := 20) (f := mostS) rfl rfl rfl (hts _ (List.mem_of_getElem? (i := 360) (by decide +kernel))) hini (hs _ (by decide +kernel)) (hs _ (by decide +kernel)) (hs _ (by decide +kernel)) (hs _ (by decide +kernel)) (hs _ (by decide +kernel)) hA0
  have hFS : FS tS (fun q : Nat => s.heap.size ≤ q) s s.heap := by
    refine ⟨zS, cellS, clS, ?_, ?_, ?_, ?_, ?_⟩
    · obtain ⟨cell, q1, q2, q3, q4, q5, q6, q7⟩ := vS
      cases clS.symm.trans q1
      exact three_slots szS q6
    · obtain ⟨cell, q1, q2, q3, q4⟩ := va_Oof (A := fun q : Nat => s.heap.size ≤ q) (show (Cond.exactly (tm_ "FIRST_SETTINGS") "[I").before #[Value.ref b] s = true from hs _ (by decide +kernel)) evS hA0
      cases clS.symm.trans q1
      exact q3
    · obtain ⟨cell, q1, q2, q3, q4, q5, q6, q7⟩ := vS
      cases clS.symm.trans q1
      exact q2.1
    · obtain ⟨cell, q1, q2, q3, q4, q5, q6, q7⟩ := vS
      cases clS.symm.trans q1
      exact q3
    · exact hA0 tS (Array.getElem?_eq_some_iff.mp clS).1
  have hSF : SF t0 t1 (fun q : Nat => s.heap.size ≤ q) s s.heap := ⟨z0, v0, z1, v1⟩
  have hl := lv_entry ([.ref b]) (n := 4) (Nat.le_of_ble_eq_true rfl)
  rw [lg_entry_eq]
  generalize (lg_sl ([.ref b]) ++ List.replicate (4 - (lg_sl ([.ref b])).length) Slot.unset).toArray = ls at hl ⊢
  have hl : lv_has ls 4 [(0, .ref b)] := hl
  obtain ⟨X, hXe⟩ : ∃ X : CX, X = (p, l, e, room_1, s, m, #[Value.ref b], below, meth, c, lw_Z below #[Value.ref b] s, 113, 5788) := ⟨_, rfl⟩
  obtain ⟨g, hge⟩ : ∃ g : GL, g = ((dC, dI), (kI, kZ, kQ), (fun q : Nat => s.heap.size ≤ q), tS) := ⟨_, rfl⟩
  have hFL : FL X g RL 4 cL_law := by
    rw [hXe, hge]
    exact ⟨hx, hb, hml, hown, htb, hPX, hK, fun q hq => hq, hFS⟩
  have main : WL X g RL 4 cL_law 0 [(0, .ref b)] [] [] [] 0 0 := by
    have hRc : (xR X) = room_1 := by rw [hXe]
    refine l_new (fs := [.null, .null, .int 0, .null, .null, .null, .null, .null]) cn_L_7 dL_law_0 rfl (by decide +kernel) (by rw [hRc]; exact Nat.le_of_ble_eq_true rfl) (by rw [hRc]; exact Nat.le_of_ble_eq_true rfl) (fun a8 => ?_)
    refine l_dup dL_law_3 rfl ?_
    refine l_call (a := a8) (As := []) (rest := [.ref a8]) (v := []) (x := (a8, .inr (8, [.null, .null, .int 0, .null, .null, .null, .null, .null]))) cs_X8_init ci_L_9 (i_X8 (lk g) a8) rfl (by rw [hRc]; exact Nat.le_of_ble_eq_true rfl) (by rw [hRc]; exact Nat.le_of_ble_eq_true rfl) (by rw [hRc]; exact Nat.le_of_ble_eq_true rfl) (by rw [hRc]; exact Nat.le_of_ble_eq_true rfl) dL_law_4 rfl rfl rfl (Nat.le_of_ble_eq_true rfl) rfl trivial (fun w8 hR8 => ?_)
    obtain ⟨h8, rfl, rfl⟩ := hR8
    refine l_astore_n (L' := [(1, .ref (h8 0)), (0, .ref b)]) dL_law_7 rfl rfl (by decide) rfl ?_
    refine l_new (fs := [.null, .int 0, .null, .int 0, .null, .int 0, .null, .null, .int 0, .int 0, .int 0, .null, .null, .null, .null, .int 0, .int 0, .int 0, .int 0, .int 0, .int 0, .int 0, .int 0, .int 0, .int 0, .int 0, .int 0, .int 0, .int 0, .int 0, .int 0, .null, .null, .null, .null, .null, .int 0, .null, .null, .null, .null]) cn_L_10 dL_law_8 rfl (by decide +kernel) (by rw [hRc]; exact Nat.le_of_ble_eq_true rfl) (by rw [hRc]; exact Nat.le_of_ble_eq_true rfl) (fun a9 => ?_)
    refine l_dup dL_law_11 rfl ?_
    refine l_call (a := a9) (As := []) (rest := [.ref a9]) (v := wdS (lk g) h8 0 94) (x := (a9, .inr (9, [.null, .int 0, .null, .int 0, .null, .int 0, .null, .null, .int 0, .int 0, .int 0, .null, .null, .null, .null, .int 0, .int 0, .int 0, .int 0, .int 0, .int 0, .int 0, .int 0, .int 0, .int 0, .int 0, .int 0, .int 0, .int 0, .int 0, .int 0, .null, .null, .null, .null, .null, .int 0, .null, .null, .null, .null]))) cs_X9_init ci_L_12 (i_X9 (lk g) a9) rfl (by rw [hRc]; exact Nat.le_of_ble_eq_true rfl) (by rw [hRc]; exact Nat.le_of_ble_eq_true rfl) (by rw [hRc]; exact Nat.le_of_ble_eq_true rfl) (by rw [hRc]; exact Nat.le_of_ble_eq_true rfl) dL_law_12 rfl rfl rfl (Nat.le_of_ble_eq_true rfl) rfl trivial (fun w9 hR9 => ?_)
    obtain ⟨h9, rfl, rfl⟩ := hR9
    refine l_astore_n (L' := [(2, .ref (h9 94)), (1, .ref (h8 0)), (0, .ref b)]) dL_law_15 rfl rfl (by decide) rfl ?_
    refine wl_wa (t0 := t0) (t1 := t1) (by rw [hXe]) (by rw [hXe]) (by rw [hXe, hge]; exact hSF) ?_
    have hRM : RM X 9 := by rw [hXe]; exact ⟨Nat.le_of_ble_eq_true rfl, Nat.le_of_ble_eq_true rfl, Nat.le_of_ble_eq_true rfl, Nat.le_of_ble_eq_true rfl⟩
    have hSC : SCR X (lD g, hJ h8 h9, cAk (lk g), lA g, t0, t1) b L xs := by
      rw [hXe, hge]
      exact ⟨hXs, hbl, hA0 b hbl⟩
    refine o_iconst (v := 0) dL_law_16 rfl (by decide) ?_
    refine o_istore_n (L' := [(0, vR b), (1, vC 0), (2, vC 94), (3, vI 0)]) dL_law_17 rfl rfl (by decide) (by rfl) (by rfl) ?_
    refine law_loop (N := L) (zs := xs) hRM hSC hL (fun k mu => ?_) (L + 1) 0 mu0 mu0_rel (by omega) (by omega)
    intro F H locs ls2 hP hS hl2
    rw [hXe] at F hS ⊢
    rw [hge] at F hS
    refine va_forget (fun q hq => hS.2.2 q hq) ?_
    refine W.widen (k := 600000) (n := 7302250) (Nat.le_of_ble_eq_true rfl) (Nat.le_of_ble_eq_true rfl) ?_
    exact lw_ret hx hb hr hlocks dL_law_1275
  have hm := main hFL s.heap [] ls (fun k q h => by simp at h) ⟨fun i j p q h => by simp at h, fun k q h => by simp at h⟩ (by rw [hXe]; exact va_S.rf) hl
  rw [hXe] at hm
  exact hm
