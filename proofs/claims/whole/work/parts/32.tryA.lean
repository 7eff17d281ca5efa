/-! ===== Math.floorMod by 16, Integer.compare ===== -/
theorem met_ofWF {l : Launch} {y : MethodName} {ws ws' : List Cond} {rm : Room} {Pc : Array Value → State → Prop} {Qc : Array Value → State → Outcome → State → Prop} {mc ms : Nat} {free : Addr → Prop} {cc : ByteArray} {maxL : Nat} {ret : Option FieldType}
    (hy : plainFor y = true) (hw : ws = Cond.code y cc maxL ret :: ws')
    (body : ∀ p e s m args below meth c s₁, BodyLoose p l y (headSpec ws rm) cc maxL ret e s m args below meth c s₁ → c.maxLocals = maxL → Pc args s →
      W p l e (headSpec ws rm).room s m args below meth c s.heap [] 0 0 (MQ below Qc args s mc ms free) (entryFrame m args maxL)) : Met l y ws rm Pc Qc mc ms free := by
  refine MetFree.of_bodySF (code := cc) (maxLocals := maxL) (ret := ret) hy ?_ ?_
  · intro args s m h hn
    obtain ⟨meth, c, h1, h2, h3, h4, h5, h6, -, -⟩ := Cond.code_spec hn (atoms_spec (ws := ws) h _ (by rw [hw]; exact List.mem_cons_self))
    exact ⟨meth, c, h1, h2, h3, h4, h5, h6⟩
  · intro p e s m args below meth c s₁ B hml hP _
    have hh0 : s₁.heap = s.heap := by rw [B.state]; rfl
    obtain ⟨t, a1, o, b1, b2, b3⟩ := body p e s m args below meth c s₁ B hml hP s₁ hh0 (Stand.of_body B)
    exact ⟨t, o, a1, b1, b2, ⟨b3.1, b3.2⟩⟩
theorem con_ofF {own : String} {nL : Nat} {cc : ByteArray} {mu : Mu} {y : MethodName} {ty : FieldType} {d : Nat} {As : List AV} {Ret : Int32 → Mu → Prop} (hy : plainFor y = true) (hown : y.cls = own) (hlen : wds As ≤ nL) (body : ∀ (X : CX) (g : GX), RI X g d ty Ret → WA X g own nL cc 0 (agL 0 As) [] mu) : Con y cc nL (some ty) d As mu Ret := by
  intro l D h cA sz t0 t1
  refine met_ofWF (cc := cc) (maxL := nL) (ret := some ty) hy rfl ?_
  intro p e s m args below meth c s₁ B hml hv
  obtain ⟨rfl, hsz, hP, hK, hinj, hnw, hSF⟩ := hv
  subst hsz
  have hts := atoms_spec (ws := Cond.code y cc nL (some ty) :: tb0) B.pre
  have ho : s.vm.findClass own = some m.cls := by rw [← hown]; exact findClass_of_methodNamed B.named
  have hl := lv_entry (As.map (cv h)) (n := nL) (by rw [sl_len]; exact hlen)
  rw [← agL_eq] at hl
  rw [lg_entry_eq]
  exact body (p, l, e, rm d, s, m, (As.map (cv h)).toArray, below, meth, c, _, 0, 0) (D, h, cA, AW h s.heap.size, t0, t1) ⟨rfl, B.returns, B.notSynchronized, Nat.le_refl _, Nat.le_refl _, Nat.le_refl _, Nat.le_refl _⟩ ⟨B.exec, B.bytes, hml, ho, fun w hw => hts w (List.mem_cons_of_mem _ hw), hnw, hK, ⟨hinj, fun k hk => Or.inl ⟨k, hk, rfl⟩⟩, fun q hq => Or.inr hq, hSF⟩ s.heap [] _ hP va_S.rf hl
theorem xor_neg (x : Int32) : (x ^^^ 16 < 0) ↔ x < 0 := by
  have key : ∀ y : Int32, y < 0 ↔ y.toBitVec.msb = true := fun y => by
    rw [BitVec.msb_eq_toInt, i_lt]
    simp
  rw [key, key]
  have : (x ^^^ 16).toBitVec = x.toBitVec ^^^ 16#32 := rfl
  rw [this, BitVec.msb_xor, show (16#32).msb = false by decide]
  simp
theorem and15 (x : Int32) : (x &&& 15).toInt = x.toInt % 16 := by
  rw [pk_and x (m := 15) 4 rfl, nI_toInt (by omega)]
  have h : x.toInt = x.toBitVec.toInt := rfl
  rw [h, BitVec.toInt_eq_toNat_cond]
  have := x.toBitVec.isLt
  split <;> omega
/-- division cut towards 0: what there is to know of it -/
theorem tdiv_facts (z k : Int) (hk : 0 < k) : z = z.tdiv k * k + z.tmod k ∧ -k < z.tmod k ∧ z.tmod k < k ∧ (0 ≤ z → 0 ≤ z.tmod k ∧ 0 ≤ z.tdiv k) ∧ (z ≤ 0 → z.tmod k ≤ 0 ∧ z.tdiv k ≤ 0) := by
  have h1 := Int.tdiv_mul_add_tmod z k
  have h2 := Int.tmod_lt_of_pos z hk
  have h3 := Int.tmod_lt_of_pos (-z) hk
  have h4 : (-z).tmod k = -(z.tmod k) := Int.neg_tmod z k
  have h5 : (-z).tdiv k = -(z.tdiv k) := Int.neg_tdiv z k
  refine ⟨h1.symm, by omega, h2, fun h => ⟨Int.tmod_nonneg k h, Int.tdiv_nonneg h (by omega)⟩, fun h => ?_⟩
  have a1 := Int.tmod_nonneg k (show 0 ≤ -z by omega)
  have a2 : 0 ≤ (-z).tdiv k := Int.tdiv_nonneg (show 0 ≤ -z by omega) (by omega)
  omega
theorem div_toInt {x y : Int32} (hy : 0 < y.toInt) : (x / y).toInt = x.toInt.tdiv y.toInt := by
  have hr := i_rng x
  obtain ⟨f1, f2, f3, f4, f5⟩ := tdiv_facts x.toInt y.toInt hy
  rw [Int32.toInt_div]
  apply i_bmod
  · rcases Int.le_total 0 x.toInt with h | h
    · have := (f4 h).2; omega
    · have h1 := (f5 h).2
      have h2 : x.toInt.tdiv y.toInt * y.toInt ≤ x.toInt.tdiv y.toInt * 1 := Int.mul_le_mul_of_nonpos_left h1 (by omega)
      have := (f5 h).1
      have h3 : x.toInt ≤ x.toInt.tdiv y.toInt * y.toInt + 0 ∨ True := Or.inr trivial
      have h4 : x.toInt.tdiv y.toInt * y.toInt = x.toInt - x.toInt.tmod y.toInt := by omega
      have h5 : -x.toInt.tdiv y.toInt ≤ -x.toInt := by
        have := Int.tdiv_le_self y.toInt (show 0 ≤ -x.toInt by omega)
        rw [Int.neg_tdiv] at this
        exact this
      omega
  · rcases Int.le_total 0 x.toInt with h | h
    · have := Int.tdiv_le_self y.toInt h; omega
    · have := (f5 h).2; omega
theorem mod16 (x : Int32) : (x - x / 16 * 16).toInt = x.toInt.tmod 16 := by
  have hr := i_rng x
  have e16 : (16 : Int32).toInt = 16 := rfl
  obtain ⟨f1, f2, f3, f4, f5⟩ := tdiv_facts x.toInt 16 (by omega)
  have hd : (x / 16).toInt = x.toInt.tdiv 16 := div_toInt (y := 16) (by rw [e16]; omega)
  have hm : (x / 16 * 16).toInt = x.toInt.tdiv 16 * 16 := by
    rw [i_mul, hd, e16]
    · rw [hd, e16]; omega
    · rw [hd, e16]; omega
  rw [i_sub, hm]
  · omega
  · rw [hm]; omega
  · rw [hm]; omega
theorem fmod16 (x : Int32) : (if x ^^^ 16 < 0 ∧ ¬ x - x / 16 * 16 = 0 then x - x / 16 * 16 + 16 else x - x / 16 * 16) = x &&& 15 := by
  rw [i_eq, and15]
  have h := mod16 x
  have hr := i_rng x
  have e16 : (16 : Int32).toInt = 16 := rfl
  have e0 : (0 : Int32).toInt = 0 := rfl
  obtain ⟨f1, f2, f3, f4, f5⟩ := tdiv_facts x.toInt 16 (by omega)
  by_cases e : x ^^^ 16 < 0 ∧ ¬ x - x / 16 * 16 = 0
  · rw [if_pos e]
    obtain ⟨e1, e2⟩ := e
    rw [xor_neg, i_lt, e0] at e1
    rw [i_eq, h, e0] at e2
    rw [i_add (by rw [h, e16]; omega) (by rw [h, e16]; omega), h, e16]
    omega
  · rw [if_neg e, h]
    rw [xor_neg, i_lt, e0, i_eq, h, e0] at e
    omega
set_option maxHeartbeats 4000000 in
set_option maxRecDepth 100000 in
theorem c_J9_floorMod_7cf53 (mu : Mu) (x : Int32) : Con yJ9_floorMod_7cf53 cJ9_floorMod_7cf53 3 (some .int) 0 [vI x, vI 16] mu (fun r mu2 => mu2 = mu ∧ r = x &&& 15) := by
  refine con_ofF (own := RJ9) (by decide +kernel) rfl (Nat.le_of_ble_eq_true rfl) (fun X g hq => ?_)
  show WA X g RJ9 3 cJ9_floorMod_7cf53 0 [(0, vI x), (1, vI 16)] [] mu
  refine o_iload_n dJ9_floorMod_7cf53_0 rfl rfl (by rfl) ?_
  refine o_iload_n dJ9_floorMod_7cf53_1 rfl rfl (by rfl) ?_
  refine o_irem dJ9_floorMod_7cf53_2 rfl (by decide) ?_
  refine o_istore_n (L' := [(0, vI x), (1, vI 16), (2, vI (x - x / 16 * 16))]) dJ9_floorMod_7cf53_3 rfl rfl (by decide) (by rfl) (by rfl) ?_
  refine o_iload_n dJ9_floorMod_7cf53_4 rfl rfl (by rfl) ?_
  refine o_iload_n dJ9_floorMod_7cf53_5 rfl rfl (by rfl) ?_
  refine o_ixor dJ9_floorMod_7cf53_6 rfl ?_
  refine o_if_ge (tgt := 18) dJ9_floorMod_7cf53_7 (by decide) rfl (fun (c7 : 0 ≤ (x ^^^ 16)) => ?_) (fun (c7 : ¬ 0 ≤ (x ^^^ 16)) => ?_)
  · skip
    refine o_iload_n dJ9_floorMod_7cf53_18 rfl rfl (by rfl) ?_
    exact o_iret hq dJ9_floorMod_7cf53_19 ⟨rfl, by rw [← fmod16, if_neg (fun h => Int32.not_le.mpr h.1 c7)]⟩
  · skip
    refine o_iload_n dJ9_floorMod_7cf53_10 rfl rfl (by rfl) ?_
    refine o_if_eq (tgt := 18) dJ9_floorMod_7cf53_11 (by decide) rfl (fun (c11 : (x - x / 16 * 16) = 0) => ?_) (fun (c11 : ¬ (x - x / 16 * 16) = 0) => ?_)
    · skip
      refine o_iload_n dJ9_floorMod_7cf53_18 rfl rfl (by rfl) ?_
      exact o_iret hq dJ9_floorMod_7cf53_19 ⟨rfl, by rw [← fmod16, if_neg (fun h => h.2 c11)]⟩
    · skip
      refine o_iload_n dJ9_floorMod_7cf53_14 rfl rfl (by rfl) ?_
      refine o_iload_n dJ9_floorMod_7cf53_15 rfl rfl (by rfl) ?_
      refine o_iadd dJ9_floorMod_7cf53_16 rfl ?_
      exact o_iret hq dJ9_floorMod_7cf53_17 ⟨rfl, by rw [← fmod16, if_pos ⟨Int32.not_le.mp c7, c11⟩]⟩
set_option maxHeartbeats 4000000 in
set_option maxRecDepth 100000 in
theorem c_J6_compare_7cf53 (mu : Mu) (x y : Int32) : Con yJ6_compare_7cf53 cJ6_compare_7cf53 2 (some .int) 0 [vI x, vI y] mu (fun r mu2 => mu2 = mu ∧ r = cmp3 x y) := by
  refine con_of (own := RJ6) (by decide) rfl (Nat.le_of_ble_eq_true rfl) (fun X g hq => ?_)
  show WA X g RJ6 2 cJ6_compare_7cf53 0 [(0, vI x), (1, vI y)] [] mu
  refine o_iload_n dJ6_compare_7cf53_0 rfl rfl (by rfl) ?_
  refine o_iload_n dJ6_compare_7cf53_1 rfl rfl (by rfl) ?_
  refine o_icmp_ge (tgt := 9) dJ6_compare_7cf53_2 (by decide) rfl (fun (c2 : y ≤ x) => ?_) (fun (c2 : ¬ y ≤ x) => ?_)
  · skip
    refine o_iload_n dJ6_compare_7cf53_9 rfl rfl (by rfl) ?_
    refine o_iload_n dJ6_compare_7cf53_10 rfl rfl (by rfl) ?_
    refine o_icmp_ne (tgt := 18) dJ6_compare_7cf53_11 (by decide) rfl (fun (c11 : ¬ x = y) => ?_) (fun (c11 : x = y) => ?_)
    · skip
      refine o_iconst (v := 1) dJ6_compare_7cf53_18 rfl (by decide) ?_
      exact o_iret hq dJ6_compare_7cf53_19 ⟨rfl, by rw [cmp3, if_neg (fun h => Int32.not_le.mpr h c2)]; simp [c11]⟩
    · skip
      refine o_iconst (v := 0) dJ6_compare_7cf53_14 rfl (by decide) ?_
      refine o_goto (tgt := 19) dJ6_compare_7cf53_15 (by decide) ?_
      exact o_iret hq dJ6_compare_7cf53_19 ⟨rfl, by rw [cmp3, if_neg (fun h => Int32.not_le.mpr h c2)]; simp [c11]⟩
  · skip
    refine o_iconst (v := (-1)) dJ6_compare_7cf53_5 rfl (by decide) ?_
    refine o_goto (tgt := 19) dJ6_compare_7cf53_6 (by decide) ?_
    exact o_iret hq dJ6_compare_7cf53_19 ⟨rfl, by rw [cmp3, if_pos (Int32.not_le.mp c2)]⟩
/-! ===== Try: the root, the late side, the cups, the cord ===== -/
set_option maxHeartbeats 4000000 in
set_option maxRecDepth 100000 in
theorem c_X7_wholeRoot (mu : Mu) (sq : Int32) (S cd : Nat) (esq : sq = nI S) (hc : mu 53 2 = nI cd) (h1 : 1 ≤ cd) (hcs : cd * cd ≤ S) (hS : S ≤ 1000000) : Con yX7_wholeRoot cX7_wholeRoot 3 (some .int) 1 [vC 53, vI sq] mu (fun r mu2 => mu2 = mu ∧ ∃ i, r = nI i ∧ 1 ≤ i ∧ i * i ≤ S ∧ S < (i + 1) * (i + 1)) := by
  refine con_of (own := RX7) (by decide) rfl (Nat.le_of_ble_eq_true rfl) (fun X g hq => ?_)
  show WA X g RX7 3 cX7_wholeRoot 0 [(0, vC 53), (1, vI sq)] [] mu
  have hcd : cd ≤ 1000 := Nat.le_of_not_lt (fun q => by have := Nat.mul_le_mul (show 1001 ≤ cd from q) (show 1001 ≤ cd from q); omega)
  refine o_aload_n dX7_wholeRoot_0 rfl rfl (by rfl) ?_
  refine o_getI cl_X7_34 dX7_wholeRoot_1 rfl (by decide) (by rfl) (by rfl) ?_
  refine o_iconst (v := 1) dX7_wholeRoot_4 rfl (by decide) ?_
  refine o_mmax (d := 0) mt_X7_149 hq.2.2.2 dX7_wholeRoot_5 rfl (Nat.le_of_ble_eq_true rfl) ?_
  rw [show (if mu 53 2 < 1 then (1 : Int32) else mu 53 2) = nI cd by rw [hc]; exact if_neg (nI_nlt h1 (by omega))]
  refine o_istore_n (L' := [(0, vC 53), (1, vI sq), (2, vI (nI cd))]) dX7_wholeRoot_8 rfl rfl (by decide) (by rfl) (by rfl) ?_
  have LP9 : ∀ (nLP9 : Nat) (i : Nat) , (cd ≤ i) → (i * i ≤ S) → (1000 < i + nLP9) → WA X g RX7 3 cX7_wholeRoot 9 [(0, vC 53), (1, vI sq), (2, vI (nI i))] [] mu := by
    intro nLP9
    induction nLP9 with
    | zero =>
      intro i h2 h3 hm
      exact absurd hm (by have hi : i ≤ 1000 := Nat.le_of_not_lt (fun q => by have := Nat.mul_le_mul (show 1001 ≤ i from q) (show 1001 ≤ i from q); omega); omega)
    | succ nLP9 ihLP9 =>
      intro i h2 h3 hm
      have hi : i ≤ 1000 := Nat.le_of_not_lt (fun q => by have := Nat.mul_le_mul (show 1001 ≤ i from q) (show 1001 ≤ i from q); omega)
      refine o_iload_n dX7_wholeRoot_9 rfl rfl (by rfl) ?_
      refine o_ldc dX7_wholeRoot_10 rfl kc_X7_152 ?_
      refine o_icmp_ge (tgt := 32) dX7_wholeRoot_12 (by decide) rfl (fun (c12 : 40000 ≤ (nI i)) => ?_) (fun (c12 : ¬ 40000 ≤ (nI i)) => ?_)
      · skip
        exact absurd c12 (by rw [show (40000 : Int32) = nI 40000 from rfl]; exact nI_ge (by omega) (by omega))
      · skip
        refine o_iload_n dX7_wholeRoot_15 rfl rfl (by rfl) ?_
        refine o_iconst (v := 1) dX7_wholeRoot_16 rfl (by decide) ?_
        refine o_iadd dX7_wholeRoot_17 rfl ?_
        refine o_iload_n dX7_wholeRoot_18 rfl rfl (by rfl) ?_
        refine o_iconst (v := 1) dX7_wholeRoot_19 rfl (by decide) ?_
        refine o_iadd dX7_wholeRoot_20 rfl ?_
        refine o_imul dX7_wholeRoot_21 rfl ?_
        refine o_iload_n dX7_wholeRoot_22 rfl rfl (by rfl) ?_
        refine o_icmp_gt (tgt := 32) dX7_wholeRoot_23 (by decide) rfl (fun (c23 : sq < (((nI i) + 1) * ((nI i) + 1))) => ?_) (fun (c23 : ¬ sq < (((nI i) + 1) * ((nI i) + 1))) => ?_)
        · skip
          rw [esq, nI_1, pk_mul] at c23
          have hlt := (nI_ltI (by omega) (by have := Nat.mul_le_mul (show i + 1 ≤ 1001 by omega) (show i + 1 ≤ 1001 by omega); omega)).mp c23
          refine o_iload_n dX7_wholeRoot_32 rfl rfl (by rfl) ?_
          exact o_iret hq dX7_wholeRoot_33 ⟨rfl, i, rfl, by omega, h3, hlt⟩
        · skip
          rw [esq, nI_1, pk_mul] at c23
          have hle : (i + 1) * (i + 1) ≤ S := Nat.le_of_not_lt (fun q => c23 ((nI_ltI (by omega) (by have := Nat.mul_le_mul (show i + 1 ≤ 1001 by omega) (show i + 1 ≤ 1001 by omega); omega)).mpr q))
          refine o_iinc (v := nI (i + 1)) (L' := [(0, vC 53), (1, vI sq), (2, vI (nI (i + 1)))]) dX7_wholeRoot_26 rfl (by rfl) (by exact nI_1 i) (by decide) (by rfl) (by rfl) ?_
          refine o_goto (tgt := 9) dX7_wholeRoot_29 (by decide) ?_
          exact ihLP9 (i + 1) (by omega) hle (by omega)
  exact LP9 1001 cd (Nat.le_refl _) hcs (by omega)
set_option maxHeartbeats 4000000 in
set_option maxRecDepth 100000 in
theorem c_X7_lateSide (mu : Mu) (hO : TOK mu 3 4 5) : Con yX7_lateSide cX7_lateSide 1 (some .int) 1 [vC 53] mu (fun r mu2 => mu2 = mu ∧ r = if mu 53 4 = -1 ∨ mu 53 13 < mu 53 5 ∨ ¬ mu 53 12 = 0 then 0 else cmp3 (mu 53 6 - mu 54 7) (tget mu 3 (mu 53 4) 0)) := by
  refine con_of (own := RX7) (by decide) rfl (Nat.le_of_ble_eq_true rfl) (fun X g hq => ?_)
  show WA X g RX7 1 cX7_lateSide 0 [(0, vC 53)] [] mu
  refine o_aload_n dX7_lateSide_0 rfl rfl (by rfl) ?_
  refine o_getI cl_X7_42 dX7_lateSide_1 rfl (by decide) (by rfl) (by rfl) ?_
  refine o_iconst (v := (-1)) dX7_lateSide_4 rfl (by decide) ?_
  refine o_icmp_eq (tgt := 26) dX7_lateSide_5 (by decide) rfl (fun (c5 : (mu 53 4) = ((-1))) => ?_) (fun (c5 : ¬ (mu 53 4) = ((-1))) => ?_)
  · skip
    refine o_iconst (v := 0) dX7_lateSide_26 rfl (by decide) ?_
    exact o_iret hq dX7_lateSide_27 ⟨rfl, by simp [c5]⟩
  · skip
    refine o_aload_n dX7_lateSide_8 rfl rfl (by rfl) ?_
    refine o_getI cl_X7_69 dX7_lateSide_9 rfl (by decide) (by rfl) (by rfl) ?_
    refine o_aload_n dX7_lateSide_12 rfl rfl (by rfl) ?_
    refine o_getI cl_X7_45 dX7_lateSide_13 rfl (by decide) (by rfl) (by rfl) ?_
    refine o_icmp_lt (tgt := 26) dX7_lateSide_16 (by decide) rfl (fun (c16 : (mu 53 13) < (mu 53 5)) => ?_) (fun (c16 : ¬ (mu 53 13) < (mu 53 5)) => ?_)
    · skip
      refine o_iconst (v := 0) dX7_lateSide_26 rfl (by decide) ?_
      exact o_iret hq dX7_lateSide_27 ⟨rfl, by simp [c5, c16]⟩
    · skip
      refine o_aload_n dX7_lateSide_19 rfl rfl (by rfl) ?_
      refine o_getI cl_X7_66 dX7_lateSide_20 rfl (by decide) (by rfl) (by rfl) ?_
      refine o_if_eq (tgt := 28) dX7_lateSide_23 (by decide) rfl (fun (c23 : (mu 53 12) = 0) => ?_) (fun (c23 : ¬ (mu 53 12) = 0) => ?_)
      · skip
        refine o_aload_n dX7_lateSide_28 rfl rfl (by rfl) ?_
        refine o_getI cl_X7_48 dX7_lateSide_29 rfl (by decide) (by rfl) (by rfl) ?_
        refine o_aload_n dX7_lateSide_32 rfl rfl (by rfl) ?_
        refine o_getC (q := 54) cl_X7_26 dX7_lateSide_33 rfl (by decide) (by rfl) (by rfl) ?_
        refine o_getI cl_X7_134 dX7_lateSide_36 rfl (by decide) (by rfl) (by rfl) ?_
        refine o_isub dX7_lateSide_39 rfl ?_
        refine o_aload_n dX7_lateSide_40 rfl rfl (by rfl) ?_
        refine o_getC (q := 1) cl_X7_9 dX7_lateSide_41 rfl (by decide) (by rfl) (by rfl) ?_
        refine o_getC (q := 3) cl_X7_135 dX7_lateSide_44 rfl (by decide) (by rfl) (by rfl) ?_
        refine o_aload_n dX7_lateSide_47 rfl rfl (by rfl) ?_
        refine o_getI cl_X7_42 dX7_lateSide_48 rfl (by decide) (by rfl) (by rfl) ?_
        refine o_iconst (v := 0) dX7_lateSide_51 rfl (by decide) ?_
        refine o_callV cs_X6_get cv_X7_85 (c_X6_get 3 4 5 tab3 _ hO (mu 53 4) 0) hq.2.2.2 (Nat.le_of_ble_eq_true rfl) dX7_lateSide_52 rfl (by decide) (by rfl) (by rfl) (by rfl) rfl rfl (Nat.le_of_ble_eq_true rfl) (fun r52 mu1 h1 => ?_)
        obtain ⟨em, h52⟩ := h1
        rw [em]
        refine o_callS cs_J6_compare_7cf53 ct_X7_138 (c_J6_compare_7cf53 _ (mu 53 6 - mu 54 7) r52) hq.2.2.2 (Nat.le_of_ble_eq_true rfl) dX7_lateSide_55 rfl rfl rfl (Nat.le_of_ble_eq_true rfl) (fun r55 mu2 h2 => ?_)
        obtain ⟨em2, h55⟩ := h2
        rw [em2]
        exact o_iret hq dX7_lateSide_58 ⟨rfl, by rw [h55, h52]; simp [c5, c16, c23]⟩
      · skip
        refine o_iconst (v := 0) dX7_lateSide_26 rfl (by decide) ?_
        exact o_iret hq dX7_lateSide_27 ⟨rfl, by simp [c5, c16, c23]⟩
set_option maxHeartbeats 4000000 in
set_option maxRecDepth 100000 in
theorem c_X7_metCup (mu : Mu) (nc : Nat) (hO : TOK mu 3 4 5) (hz : nc ≤ 4) (ez : mu 3 2 = nI nc) (ay : Int32) : Con yX7_metCup cX7_metCup 8 (some .int) 1 [vC 53, vI ay] mu (fun r mu2 => mu2 = mu ∧ r = metC (cupC mu) nc ay (mu 53 6 - mu 54 7) (mu 53 7 - mu 54 8)) := by
  refine con_of (own := RX7) (by decide) rfl (Nat.le_of_ble_eq_true rfl) (fun X g hq => ?_)
  show WA X g RX7 8 cX7_metCup 0 [(0, vC 53), (1, vI ay)] [] mu
  refine o_aload_n dX7_metCup_0 rfl rfl (by rfl) ?_
  refine o_getC (q := 1) cl_X7_9 dX7_metCup_1 rfl (by decide) (by rfl) (by rfl) ?_
  refine o_getC (q := 3) cl_X7_135 dX7_metCup_4 rfl (by decide) (by rfl) (by rfl) ?_
  refine o_astore_n (L' := [(0, vC 53), (1, vI ay), (2, vC 3)]) dX7_metCup_7 rfl rfl (by decide) (by rfl) (by rfl) ?_
  refine o_aload_n dX7_metCup_8 rfl rfl (by rfl) ?_
  refine o_getI cl_X7_48 dX7_metCup_9 rfl (by decide) (by rfl) (by rfl) ?_
  refine o_aload_n dX7_metCup_12 rfl rfl (by rfl) ?_
  refine o_getC (q := 54) cl_X7_26 dX7_metCup_13 rfl (by decide) (by rfl) (by rfl) ?_
  refine o_getI cl_X7_134 dX7_metCup_16 rfl (by decide) (by rfl) (by rfl) ?_
  refine o_isub dX7_metCup_19 rfl ?_
  refine o_istore_n (L' := [(0, vC 53), (1, vI ay), (2, vC 3), (3, vI ((mu 53 6) - (mu 54 7)))]) dX7_metCup_20 rfl rfl (by decide) (by rfl) (by rfl) ?_
  refine o_aload_n dX7_metCup_21 rfl rfl (by rfl) ?_
  refine o_getI cl_X7_51 dX7_metCup_22 rfl (by decide) (by rfl) (by rfl) ?_
  refine o_aload_n dX7_metCup_25 rfl rfl (by rfl) ?_
  refine o_getC (q := 54) cl_X7_26 dX7_metCup_26 rfl (by decide) (by rfl) (by rfl) ?_
  refine o_getI cl_X7_117 dX7_metCup_29 rfl (by decide) (by rfl) (by rfl) ?_
  refine o_isub dX7_metCup_32 rfl ?_
  refine o_istore (L' := [(0, vC 53), (1, vI ay), (2, vC 3), (3, vI ((mu 53 6) - (mu 54 7))), (4, vI ((mu 53 7) - (mu 54 8)))]) dX7_metCup_33 rfl (by decide) (by rfl) (by rfl) ?_
  refine o_iconst (v := 0) dX7_metCup_35 rfl (by decide) ?_
  refine o_istore (L' := [(0, vC 53), (1, vI ay), (2, vC 3), (3, vI ((mu 53 6) - (mu 54 7))), (4, vI ((mu 53 7) - (mu 54 8))), (5, vI 0)]) dX7_metCup_36 rfl (by decide) (by rfl) (by rfl) ?_
  have LP38 : ∀ (nLP38 : Nat) (i : Nat) , (i ≤ nc) → (∀ j, j < i → ¬ cupIn (cupC mu) ay (mu 53 6 - mu 54 7) (mu 53 7 - mu 54 8) j) → (nc < i + nLP38) → WA X g RX7 8 cX7_metCup 38 [(0, vC 53), (1, vI ay), (2, vC 3), (3, vI ((mu 53 6) - (mu 54 7))), (4, vI ((mu 53 7) - (mu 54 8))), (5, vI (nI i))] [] mu := by
    intro nLP38
    induction nLP38 with
    | zero =>
      intro i hi hno hm
      exact absurd hm (by omega)
    | succ nLP38 ihLP38 =>
      intro i hi hno hm
      refine o_iload dX7_metCup_38 rfl (by rfl) ?_
      refine o_aload_n dX7_metCup_40 rfl rfl (by rfl) ?_
      refine o_getI cl_X7_153 dX7_metCup_41 rfl (by decide) (by rfl) (by rfl) ?_
      refine o_icmp_ge (tgt := 114) dX7_metCup_44 (by decide) rfl (fun (c44 : (mu 3 2) ≤ (nI i)) => ?_) (fun (c44 : ¬ (mu 3 2) ≤ (nI i)) => ?_)
      · skip
        rw [ez] at c44
        have hzi := nI_dec2 c44 (by omega) (by omega)
        refine o_iconst (v := (-1)) dX7_metCup_114 rfl (by decide) ?_
        exact o_iret hq dX7_metCup_115 ⟨rfl, (fstc_is (Or.inr ⟨rfl, fun j h => hno j (by omega)⟩)).symm⟩
      · skip
        rw [ez] at c44
        have hiz := nI_dec c44 (by omega) (by omega)
        refine o_aload_n dX7_metCup_47 rfl rfl (by rfl) ?_
        refine o_iload dX7_metCup_48 rfl (by rfl) ?_
        refine o_iconst (v := 1) dX7_metCup_50 rfl (by decide) ?_
        refine o_callV cs_X6_get cv_X7_85 (c_X6_get 3 4 5 tab3 _ hO (nI i) 1) hq.2.2.2 (Nat.le_of_ble_eq_true rfl) dX7_metCup_51 rfl (by decide) (by rfl) (by rfl) (by rfl) rfl rfl (Nat.le_of_ble_eq_true rfl) (fun r1 mu1 h1 => ?_)
        obtain ⟨em, h1⟩ := h1
        rw [em]
        have h1 := h1.trans (tget_in (j := 1) ez hO.1 hiz (by omega) (by omega) (by omega))
        subst h1
        refine o_istore (L' := [(0, vC 53), (1, vI ay), (2, vC 3), (3, vI ((mu 53 6) - (mu 54 7))), (4, vI ((mu 53 7) - (mu 54 8))), (5, vI (nI i)), (6, vI (mu (3 + 2 + i) 1))]) dX7_metCup_54 rfl (by decide) (by rfl) (by rfl) ?_
        refine o_iload_n dX7_metCup_56 rfl rfl (by rfl) ?_
        refine o_iload dX7_metCup_57 rfl (by rfl) ?_
        refine o_icmp_lt (tgt := 73) dX7_metCup_59 (by decide) rfl (fun (c59 : ay < (mu (3 + 2 + i) 1)) => ?_) (fun (c59 : ¬ ay < (mu (3 + 2 + i) 1)) => ?_)
        · skip
          refine o_iconst (v := 0) dX7_metCup_73 rfl (by decide) ?_
          refine o_istore (L' := [(0, vC 53), (1, vI ay), (2, vC 3), (3, vI ((mu 53 6) - (mu 54 7))), (4, vI ((mu 53 7) - (mu 54 8))), (5, vI (nI i)), (6, vI (mu (3 + 2 + i) 1)), (7, vI 0)]) dX7_metCup_74 rfl (by decide) (by rfl) (by rfl) ?_
          refine o_iload dX7_metCup_76 rfl (by rfl) ?_
          refine o_if_eq (tgt := 108) dX7_metCup_78 (by decide) rfl (fun (c78 : (0 : Int32) = 0) => ?_) (fun (c78 : ¬ (0 : Int32) = 0) => ?_)
          · skip
            refine o_iinc (v := nI (i + 1)) (L' := [(0, vC 53), (1, vI ay), (2, vC 3), (3, vI ((mu 53 6) - (mu 54 7))), (4, vI ((mu 53 7) - (mu 54 8))), (5, vI (nI (i + 1))), (6, vI (mu (3 + 2 + i) 1)), (7, vI 0)]) dX7_metCup_108 rfl (by rfl) (by exact nI_1 i) (by decide) (by rfl) (by rfl) ?_
            refine o_goto (tgt := 38) dX7_metCup_111 (by decide) ?_
            refine o_pick (L' := [(0, vC 53), (1, vI ay), (2, vC 3), (3, vI ((mu 53 6) - (mu 54 7))), (4, vI ((mu 53 7) - (mu 54 8))), (5, vI (nI (i + 1)))]) [0, 1, 2, 3, 4, 5] (by rfl) ?_
            exact ihLP38 (i + 1) (by omega) (lt_s hno (fun h => h.1.1 c59)) (by omega)
          · skip
            exact absurd (by decide) c78
        · skip
          refine o_iload dX7_metCup_62 rfl (by rfl) ?_
          refine o_iload dX7_metCup_64 rfl (by rfl) ?_
          refine o_icmp_ge (tgt := 73) dX7_metCup_66 (by decide) rfl (fun (c66 : (mu (3 + 2 + i) 1) ≤ ((mu 53 7) - (mu 54 8))) => ?_) (fun (c66 : ¬ (mu (3 + 2 + i) 1) ≤ ((mu 53 7) - (mu 54 8))) => ?_)
          · skip
            refine o_iconst (v := 0) dX7_metCup_73 rfl (by decide) ?_
            refine o_istore (L' := [(0, vC 53), (1, vI ay), (2, vC 3), (3, vI ((mu 53 6) - (mu 54 7))), (4, vI ((mu 53 7) - (mu 54 8))), (5, vI (nI i)), (6, vI (mu (3 + 2 + i) 1)), (7, vI 0)]) dX7_metCup_74 rfl (by decide) (by rfl) (by rfl) ?_
            refine o_iload dX7_metCup_76 rfl (by rfl) ?_
            refine o_if_eq (tgt := 108) dX7_metCup_78 (by decide) rfl (fun (c78 : (0 : Int32) = 0) => ?_) (fun (c78 : ¬ (0 : Int32) = 0) => ?_)
            · skip
              refine o_iinc (v := nI (i + 1)) (L' := [(0, vC 53), (1, vI ay), (2, vC 3), (3, vI ((mu 53 6) - (mu 54 7))), (4, vI ((mu 53 7) - (mu 54 8))), (5, vI (nI (i + 1))), (6, vI (mu (3 + 2 + i) 1)), (7, vI 0)]) dX7_metCup_108 rfl (by rfl) (by exact nI_1 i) (by decide) (by rfl) (by rfl) ?_
              refine o_goto (tgt := 38) dX7_metCup_111 (by decide) ?_
              refine o_pick (L' := [(0, vC 53), (1, vI ay), (2, vC 3), (3, vI ((mu 53 6) - (mu 54 7))), (4, vI ((mu 53 7) - (mu 54 8))), (5, vI (nI (i + 1)))]) [0, 1, 2, 3, 4, 5] (by rfl) ?_
              exact ihLP38 (i + 1) (by omega) (lt_s hno (fun h => h.1.2 c66)) (by omega)
            · skip
              exact absurd (by decide) c78
          · skip
            refine o_iconst (v := 1) dX7_metCup_69 rfl (by decide) ?_
            refine o_goto (tgt := 74) dX7_metCup_70 (by decide) ?_
            refine o_istore (L' := [(0, vC 53), (1, vI ay), (2, vC 3), (3, vI ((mu 53 6) - (mu 54 7))), (4, vI ((mu 53 7) - (mu 54 8))), (5, vI (nI i)), (6, vI (mu (3 + 2 + i) 1)), (7, vI 1)]) dX7_metCup_74 rfl (by decide) (by rfl) (by rfl) ?_
            refine o_iload dX7_metCup_76 rfl (by rfl) ?_
            refine o_if_eq (tgt := 108) dX7_metCup_78 (by decide) rfl (fun (c78 : (1 : Int32) = 0) => ?_) (fun (c78 : ¬ (1 : Int32) = 0) => ?_)
            · skip
              exact absurd c78 (by decide)
            · skip
              refine o_iload_n dX7_metCup_81 rfl rfl (by rfl) ?_
              refine o_aload_n dX7_metCup_82 rfl rfl (by rfl) ?_
              refine o_iload dX7_metCup_83 rfl (by rfl) ?_
              refine o_iconst (v := 0) dX7_metCup_85 rfl (by decide) ?_
              refine o_callV cs_X6_get cv_X7_85 (c_X6_get 3 4 5 tab3 _ hO (nI i) 0) hq.2.2.2 (Nat.le_of_ble_eq_true rfl) dX7_metCup_86 rfl (by decide) (by rfl) (by rfl) (by rfl) rfl rfl (Nat.le_of_ble_eq_true rfl) (fun r2 mu2 h2 => ?_)
              obtain ⟨em, h2⟩ := h2
              rw [em]
              have h2 := h2.trans (tget_in (j := 0) ez hO.1 hiz (by omega) (by omega) (by omega))
              subst h2
              refine o_isub dX7_metCup_89 rfl ?_
              refine o_mabs (d := 0) mt_X7_105 hq.2.2.2 dX7_metCup_90 rfl (Nat.le_of_ble_eq_true rfl) ?_
              refine o_aload_n dX7_metCup_93 rfl rfl (by rfl) ?_
              refine o_iload dX7_metCup_94 rfl (by rfl) ?_
              refine o_iconst (v := 2) dX7_metCup_96 rfl (by decide) ?_
              refine o_callV cs_X6_get cv_X7_85 (c_X6_get 3 4 5 tab3 _ hO (nI i) 2) hq.2.2.2 (Nat.le_of_ble_eq_true rfl) dX7_metCup_97 rfl (by decide) (by rfl) (by rfl) (by rfl) rfl rfl (Nat.le_of_ble_eq_true rfl) (fun r3 mu3 h3 => ?_)
              obtain ⟨em, h3⟩ := h3
              rw [em]
              have h3 := h3.trans (tget_in (j := 2) ez hO.1 hiz (by omega) (by omega) (by omega))
              subst h3
              refine o_iconst (v := 2) dX7_metCup_100 rfl (by decide) ?_
              refine o_iadd dX7_metCup_101 rfl ?_
              refine o_icmp_gt (tgt := 108) dX7_metCup_102 (by decide) rfl (fun (c102 : ((mu (3 + 2 + i) 2) + 2) < (ab (((mu 53 6) - (mu 54 7)) - (mu (3 + 2 + i) 0)))) => ?_) (fun (c102 : ¬ ((mu (3 + 2 + i) 2) + 2) < (ab (((mu 53 6) - (mu 54 7)) - (mu (3 + 2 + i) 0)))) => ?_)
              · skip
                refine o_iinc (v := nI (i + 1)) (L' := [(0, vC 53), (1, vI ay), (2, vC 3), (3, vI ((mu 53 6) - (mu 54 7))), (4, vI ((mu 53 7) - (mu 54 8))), (5, vI (nI (i + 1))), (6, vI (mu (3 + 2 + i) 1)), (7, vI 1)]) dX7_metCup_108 rfl (by rfl) (by exact nI_1 i) (by decide) (by rfl) (by rfl) ?_
                refine o_goto (tgt := 38) dX7_metCup_111 (by decide) ?_
                refine o_pick (L' := [(0, vC 53), (1, vI ay), (2, vC 3), (3, vI ((mu 53 6) - (mu 54 7))), (4, vI ((mu 53 7) - (mu 54 8))), (5, vI (nI (i + 1)))]) [0, 1, 2, 3, 4, 5] (by rfl) ?_
                exact ihLP38 (i + 1) (by omega) (lt_s hno (fun h => h.2 c102)) (by omega)
              · skip
                refine o_iload dX7_metCup_105 rfl (by rfl) ?_
                exact o_iret hq dX7_metCup_107 ⟨rfl, (fstc_is (Or.inl ⟨i, hiz, rfl, ⟨⟨c59, c66⟩, c102⟩, hno⟩)).symm⟩
  exact LP38 (nc + 1) 0 (by omega) (fun j h => by omega) (by omega)
