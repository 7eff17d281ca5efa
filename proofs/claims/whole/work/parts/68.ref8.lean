/-! ===== the reference: down, mended ===== -/
def frM (mu m : Mu) : Prop := (∀ q, (q < 94 ∨ (94 < q ∧ q < 101) ∨ 107 < q) → m q = mu q) ∧ ∀ j, (j < 16 ∨ j = 17 ∨ 30 < j) → m 94 j = mu 94 j
theorem frR.M {mu m : Mu} (h : frR mu m) : frM mu m := ⟨fun q hq => h.1 q (by omega), fun j hj => h.2 j (by omega)⟩
theorem frM.rf (mu : Mu) : frM mu mu := ⟨fun _ _ => rfl, fun _ _ => rfl⟩
theorem MT.fst2 {P : Nat → Prop} {n : Nat} {met : Int32} (h : MT P n 0 met) : met = cn (fstc P n) ∨ n ≥ 2 ^ 31 := by
  by_cases hn : n < 2 ^ 31
  · left
    rcases h with ⟨h1, h2⟩ | ⟨i, h1, h2, h3, h4, h5⟩
    · rw [h1, fstc_is (Or.inr ⟨rfl, fun i hi => h2 i (by omega) hi⟩)]; rfl
    · rw [h3, fstc_is (Or.inl ⟨i, h2, rfl, h4, fun j hj => h5 j (by omega) hj⟩)]; exact (if_neg (nI_nem1 (by omega))).symm
  · right; omega
theorem MT.lo {P : Nat → Prop} {n k c : Nat} {met : Int32} (h : MT P n c met) (hk : c ≤ k) (hP : ∀ i, i < k → ¬ P i) : MT P n 0 met := by
  rcases h with ⟨h1, h2⟩ | ⟨i, h1, h2, h3, h4, h5⟩
  · refine Or.inl ⟨h1, fun i _ b => ?_⟩
    by_cases e : i < c
    · exact hP i (by omega)
    · exact h2 i (by omega) b
  · refine Or.inr ⟨i, by omega, h2, h3, h4, fun j _ b => ?_⟩
    by_cases e : j < c
    · exact hP j (by omega)
    · exact h5 j (by omega) b
theorem traj_free {E : Vc} {C : Nat → Vc} {nc : Nat} {U V : Vc} (h3 : E 3 = 0) : ∀ (n : Nat) (s : Vc), Traj E C nc U V n s → s 9 = -1
  | 0, s, h => (h 9 (by decide)).trans rfl
  | n + 1, t, h => by
    obtain ⟨s, h1, h2⟩ := h
    have hs := traj_free h3 n s h1
    rcases h2 with ⟨-, h2⟩ | ⟨h2, -⟩
    · obtain ⟨f, g, k, ⟨-, -, -, -, -, -, -, f14, -⟩, -, hH, hL, ⟨-, -, -, -, -, -, -, t9, -⟩⟩ := h2
      rcases hL with ⟨-, ek⟩ | ⟨q, -⟩
      · rw [t9, ek, hH.1 14 (by decide) (by decide) (by decide) (by decide) (by decide) (by decide) (by decide) (by decide), f14, hs]
      · exact absurd h3 q
    · exact absurd hs h2
theorem traj_ex {E : Vc} {C : Nat → Vc} {nc : Nat} {U V : Vc} : ∀ {m n : Nat}, n ≤ m → ∀ {s : Vc}, Traj E C nc U V m s → ∃ s, Traj E C nc U V n s
  | 0, n, hn, s, h => by rw [show n = 0 by omega]; exact ⟨s, h⟩
  | m + 1, n, hn, s, h => by
    by_cases e : n = m + 1
    · rw [e]; exact ⟨s, h⟩
    · obtain ⟨s2, h2, -⟩ := h
      exact traj_ex (n := n) (by omega) h2
noncomputable abbrev aD (mu : Mu) : TA := (mu 2 0, tget mu 9 0 1, tget mu 9 0 2, 0, -1, 0)
theorem toka_dn {mu : Mu} {nc np : Nat} (hA : RB mu nc np) : TOKA (upF mu 94 17 1) (aD mu) nc np ∧ tv (upF mu 94 17 1) = tv mu := by
  have c : ∀ q, q ≠ 94 → upF mu 94 17 1 q = mu q := fun q hq => upF_k hq
  obtain ⟨a1, a2, a3, a4, a5, a6, a7, a8⟩ := hA
  refine ⟨⟨a1.cg (fun q _ b => c q (by omega)), a2.cg (fun q hq => c q (by omega)) (fun q b1 b2 => c q (by omega)) (upF_i (by decide)) (upF_i (by decide)), a3, a4, a5, Or.inr ⟨rfl, by rw [upF_s]; decide⟩, Or.inl ⟨rfl, ?_⟩, Or.inl rfl⟩, tv_cg a1.t9 (fun q _ b => c q (by omega))⟩
  rw [upF_i (by decide)]
  rcases a7 with ⟨-, h⟩ | ⟨i, h1, h2, -⟩
  · exact h
  · exact absurd h2.symm (nI_nem1 (by have := a2.2.1.2.2.1; omega))
def DWN (mu m : Mu) : Prop := frR mu m ∧ (∀ k, k < 100 → m 101 (9 * k + 2) = dnT mu (k + 1) 2 ∧ m 101 (9 * k + 3) = dnT mu (k + 1) 3 ∧ m 102 k = dnT mu (k + 1) 13 ∧ m 103 k = dnT mu (k + 1) 14)
theorem DWN.mk {mu m : Mu} {nc np : Nat} (hA : RB mu nc np) (h : TRR (upF mu 94 17 1) m (aD mu)) : DWN mu (upF m 94 17 0) := by
  obtain ⟨h0, h1, h2, -, -, -, -, h7, s9, hs9⟩ := h
  have hA2 := toka_dn hA
  have e17 : mu 94 17 = 0 := hA.2.2.2.2.2.1.elim (fun h => h.2) (fun h => absurd (show (1 : Int32) = 0 from h.1) (by decide))
  have h9 : ∀ k, tvA (upF mu 94 17 1) (aD mu) k 9 = -1 ∨ ∀ s, ¬ trA (upF mu 94 17 1) (aD mu) k s := fun k => by
    by_cases q : ∃ s, trA (upF mu 94 17 1) (aD mu) k s
    · obtain ⟨s, hs⟩ := q
      exact Or.inl ((hA2.1.tv hs (by decide)).trans (traj_free rfl k s hs))
    · exact Or.inr (fun s hs => q ⟨s, hs⟩)
  refine ⟨⟨fun q hq => by rw [upF_k (by omega), h0.1 q hq, upF_k (by omega)], fun j hj => ?_⟩, fun k hk => ?_⟩
  · by_cases e : j = 17
    · rw [e, upF_s, e17]
    · rw [upF_i e, h0.2 j hj, upF_i e]
  · have ex := fun n hn => traj_ex (n := n) hn hs9
    have h97 := (h9 k).resolve_right (fun h => (ex k (by omega)).elim h)
    rw [upF_k (by decide), upF_k (by decide), upF_k (by decide)]
    have e := hA2.2
    refine ⟨(h2 k hk 2 (by decide)).trans ?_, (h2 k hk 3 (by decide)).trans ?_, (h7 k hk h97).1.trans ?_, (h7 k hk h97).2.trans ?_⟩ <;> (show tv (upF mu 94 17 1) _ _ _ _ _ _ _ _ = _; rw [e]; rfl)
theorem neg_lt (k : Nat) : nI 0 - 1 < nI k ∨ 2 ^ 31 ≤ k := by
  by_cases h : k < 2 ^ 31
  · left
    rw [i_lt, nI_toInt h]
    have : (nI 0 - 1).toInt = -1 := rfl
    omega
  · right; omega
set_option maxHeartbeats 4000000 in
set_option maxRecDepth 100000 in
theorem c_X9_down (mu : Mu) (nc np : Nat) (hA : RB mu nc np) (stp pace : Int32) : Con yX9_down cX9_down 5 (some .int) 3 [vC 94, vI stp, vI pace] mu (fun r mu2 => ((inB stp 0 99 && inB pace 0 99) = false ∧ r = -1 ∧ mu2 = mu) ∨ ((inB stp 0 99 && inB pace 0 99) = true ∧ frR mu mu2 ∧ ∃ k, stp = nI k ∧ k ≤ 99 ∧ r = cn (fstc (dnP mu k pace) 100))) := by
  refine con_of (own := RX9) (by decide) rfl (Nat.le_of_ble_eq_true rfl) (fun X g hq => ?_)
  show WA X g RX9 5 cX9_down 0 [(0, vC 94), (1, vI stp), (2, vI pace)] [] mu
  refine o_iload_n dX9_down_0 rfl rfl (by rfl) ?_
  refine o_i2l dX9_down_1 rfl ?_
  refine o_lconst (v := 0) dX9_down_2 rfl (by decide) ?_
  refine o_ldc2 dX9_down_3 rfl kc_X9_89 ?_
  refine o_callS cs_X9_in ct_X9_71 (c_in _ stp 0 99) hq.2.2.2 (Nat.le_of_ble_eq_true rfl) dX9_down_6 rfl rfl rfl (Nat.le_of_ble_eq_true rfl) (fun r1 mu1 h1 => ?_)
  obtain ⟨em, h1⟩ := h1
  rw [em]
  refine o_if_eq (tgt := 24) dX9_down_9 (by decide) rfl (fun (c9 : r1 = 0) => ?_) (fun (c9 : ¬ r1 = 0) => ?_)
  · skip
    have b9 := (if10 h1).1 c9
    refine o_iconst (v := (-1)) dX9_down_24 rfl (by decide) ?_
    exact o_iret hq dX9_down_25 (Or.inl ⟨by simp [b9], rfl, rfl⟩)
  · skip
    have b9 := (if10 h1).2 c9
    refine o_iload_n dX9_down_12 rfl rfl (by rfl) ?_
    refine o_i2l dX9_down_13 rfl ?_
    refine o_lconst (v := 0) dX9_down_14 rfl (by decide) ?_
    refine o_ldc2 dX9_down_15 rfl kc_X9_89 ?_
    refine o_callS cs_X9_in ct_X9_71 (c_in _ pace 0 99) hq.2.2.2 (Nat.le_of_ble_eq_true rfl) dX9_down_18 rfl rfl rfl (Nat.le_of_ble_eq_true rfl) (fun r2 mu2 h2 => ?_)
    obtain ⟨em, h2⟩ := h2
    rw [em]
    refine o_if_ne (tgt := 26) dX9_down_21 (by decide) rfl (fun (c21 : ¬ r2 = 0) => ?_) (fun (c21 : r2 = 0) => ?_)
    · skip
      have b21 := (if10 h2).2 c21
      refine o_aload_n dX9_down_26 rfl rfl (by rfl) ?_
      refine o_iconst (v := 1) dX9_down_27 rfl (by decide) ?_
      refine o_put cl_X9_194 cp_X9_17 dX9_down_28 rfl (by decide) (by rfl) (by rfl) (fitZ (Or.inr rfl)) ?_
      refine o_aload_n dX9_down_31 rfl rfl (by rfl) ?_
      refine o_callVV cs_X9_tries cv_X9_222 (c_tries _ _ nc np (toka_dn hA).1) hq.2.2.2 (Nat.le_of_ble_eq_true rfl) dX9_down_32 rfl (by decide) (by rfl) (by rfl) (by rfl) rfl rfl (Nat.le_of_ble_eq_true rfl) (fun mT hT => ?_)
      have hD0 := DWN.mk hA hT
      obtain ⟨k, ek, -, hk⟩ := inB_nI (l := 0) (m := 99) (by decide) (by decide) b9
      refine o_aload_n dX9_down_35 rfl rfl (by rfl) ?_
      refine o_iconst (v := 0) dX9_down_36 rfl (by decide) ?_
      refine o_put cl_X9_194 cp_X9_17 dX9_down_37 rfl (by decide) (by rfl) (by rfl) (fitZ (Or.inl rfl)) ?_
      refine o_bipush (v := (-4)) dX9_down_40 rfl (by decide) ?_
      refine o_istore_n (L' := [(0, vC 94), (1, vI stp), (2, vI pace), (3, vI ((-4)))]) dX9_down_42 rfl rfl (by decide) (by rfl) (by rfl) ?_
      refine o_bipush (v := 99) dX9_down_43 rfl (by decide) ?_
      refine o_istore (L' := [(0, vC 94), (1, vI stp), (2, vI pace), (3, vI ((-4))), (4, vI 99)]) dX9_down_45 rfl (by decide) (by rfl) (by rfl) ?_
      have LP47 : ∀ (nLP47 : Nat) (t : Nat) (met : Int32) (m : Mu) , (m = upF mT 94 17 0) → (t ≤ 100) → (MT (dnP mu k pace) 100 t met) → (t < nLP47) → WA X g RX9 5 cX9_down 47 [(0, vC 94), (1, vI stp), (2, vI pace), (3, vI met), (4, vI (nI t - 1))] [] m := by
        intro nLP47
        induction nLP47 with
        | zero =>
          intro t met m em9 ht hM hm
          exact absurd hm (by omega)
        | succ nLP47 ihLP47 =>
          intro t met m em9 ht hM hm
          have hD : DWN mu m := by rw [em9]; exact hD0
          refine o_iload dX9_down_47 rfl (by rfl) ?_
          refine o_iload_n dX9_down_49 rfl rfl (by rfl) ?_
          refine o_icmp_lt (tgt := 120) dX9_down_50 (by decide) rfl (fun (c50 : (nI t - 1) < stp) => ?_) (fun (c50 : ¬ (nI t - 1) < stp) => ?_)
          · skip
            have htk : t ≤ k := by rw [ek] at c50; by_cases h9 : t = 0; omega; rw [show nI t - 1 = nI (t - 1) from pk_sub (b := 1) (by omega)] at c50; have := (nI_ltI (by omega) (by omega)).mp c50; omega
            have hfin := ((hM.lo htk (fun i hi h9 => by have := h9.1; omega)).fst2).resolve_right (by decide)
            refine o_iload_n dX9_down_120 rfl rfl (by rfl) ?_
            exact o_iret hq dX9_down_121 (Or.inr ⟨by simp [b9, b21], hD.1, k, ek, hk, hfin⟩)
          · skip
            obtain ⟨c, ec⟩ : ∃ c, t = c + 1 := ⟨t - 1, by have : ¬ t = 0 := fun e9 => c50 (by rw [e9, ek]; exact (neg_lt k).resolve_right (by omega)); omega⟩
            subst ec
            rw [bk1] at c50 ⊢
            rw [ek] at c50
            have hkc : k ≤ c := Nat.not_lt.mp (fun h9 => c50 (nI_lt h9 (by omega)))
            have hd := hD.2 c (by omega)
            have hd : m 101 (9 * nI c + 2).toNatClampNeg = dnT mu (c + 1) 2 ∧ m 101 (9 * nI c + 3).toNatClampNeg = dnT mu (c + 1) 3 ∧ m 102 (nI c).toNatClampNeg = dnT mu (c + 1) 13 ∧ m 103 (nI c).toNatClampNeg = dnT mu (c + 1) 14 := by rw [show (9 * nI c + 2).toNatClampNeg = 9 * c + 2 from ixl (a := 9) (t := 2) (by omega), show (9 * nI c + 3).toNatClampNeg = 9 * c + 3 from ixl (a := 9) (t := 3) (by omega), nI_clamp (by omega)]; exact hd
            refine o_aload_n dX9_down_53 rfl rfl (by rfl) ?_
            refine o_getC (q := 101) cl_X9_28 dX9_down_54 rfl (by decide) (by rfl) (by rfl) ?_
            refine o_bipush (v := 9) dX9_down_57 rfl (by decide) ?_
            refine o_iload dX9_down_59 rfl (by rfl) ?_
            refine o_imul dX9_down_61 rfl ?_
            refine o_iconst (v := 2) dX9_down_62 rfl (by decide) ?_
            refine o_iadd dX9_down_63 rfl ?_
            refine o_iald dX9_down_64 rfl (by decide) (by rfl) (by rfl) (ixb (a := 9) (t := 2) (by omega) (by decide)) ?_
            refine o_aload_n dX9_down_65 rfl rfl (by rfl) ?_
            refine o_getC (q := 102) cl_X9_31 dX9_down_66 rfl (by decide) (by rfl) (by rfl) ?_
            refine o_iload dX9_down_69 rfl (by rfl) ?_
            refine o_iald dX9_down_71 rfl (by decide) (by rfl) (by rfl) (vp_in_nI (by omega) (by decide)) ?_
            refine o_isub dX9_down_72 rfl ?_
            refine o_callS cs_X9_size ct_X9_197 (c_X9_size _ _) hq.2.2.2 (Nat.le_of_ble_eq_true rfl) dX9_down_73 rfl rfl rfl (Nat.le_of_ble_eq_true rfl) (fun rz73 mu4 hz73 => ?_)
            obtain ⟨em, hz73⟩ := hz73
            rw [em]
            subst hz73
            refine o_iload_n dX9_down_76 rfl rfl (by rfl) ?_
            refine o_icmp_gt (tgt := 112) dX9_down_77 (by decide) rfl (fun (c77 : pace < (ab ((m 101 (9 * nI c + 2).toNatClampNeg) - (m 102 (nI c).toNatClampNeg)))) => ?_) (fun (c77 : ¬ pace < (ab ((m 101 (9 * nI c + 2).toNatClampNeg) - (m 102 (nI c).toNatClampNeg)))) => ?_)
            · skip
              refine o_iload_n dX9_down_112 rfl rfl (by rfl) ?_
              refine o_istore_n (L' := [(0, vC 94), (1, vI stp), (2, vI pace), (3, vI met), (4, vI (nI c))]) dX9_down_113 rfl rfl (by decide) (by rfl) (by rfl) ?_
              refine o_iinc (v := nI c - 1) (L' := [(0, vC 94), (1, vI stp), (2, vI pace), (3, vI met), (4, vI (nI c - 1))]) dX9_down_114 rfl (by rfl) (by exact dec1 (nI c)) (by decide) (by rfl) (by rfl) ?_
              refine o_goto (tgt := 47) dX9_down_117 (by decide) ?_
              exact ihLP47 c _ _ em9 (by omega) (hM.no (fun h9 => h9.2.1 (by rw [← hd.1, ← hd.2.2.1]; exact c77))) (by omega)
            · skip
              refine o_aload_n dX9_down_80 rfl rfl (by rfl) ?_
              refine o_getC (q := 101) cl_X9_28 dX9_down_81 rfl (by decide) (by rfl) (by rfl) ?_
              refine o_bipush (v := 9) dX9_down_84 rfl (by decide) ?_
              refine o_iload dX9_down_86 rfl (by rfl) ?_
              refine o_imul dX9_down_88 rfl ?_
              refine o_iconst (v := 3) dX9_down_89 rfl (by decide) ?_
              refine o_iadd dX9_down_90 rfl ?_
              refine o_iald dX9_down_91 rfl (by decide) (by rfl) (by rfl) (ixb (a := 9) (t := 3) (by omega) (by decide)) ?_
              refine o_aload_n dX9_down_92 rfl rfl (by rfl) ?_
              refine o_getC (q := 103) cl_X9_34 dX9_down_93 rfl (by decide) (by rfl) (by rfl) ?_
              refine o_iload dX9_down_96 rfl (by rfl) ?_
              refine o_iald dX9_down_98 rfl (by decide) (by rfl) (by rfl) (vp_in_nI (by omega) (by decide)) ?_
              refine o_isub dX9_down_99 rfl ?_
              refine o_callS cs_X9_size ct_X9_197 (c_X9_size _ _) hq.2.2.2 (Nat.le_of_ble_eq_true rfl) dX9_down_100 rfl rfl rfl (Nat.le_of_ble_eq_true rfl) (fun rz100 mu5 hz100 => ?_)
              obtain ⟨em, hz100⟩ := hz100
              rw [em]
              subst hz100
              refine o_iload_n dX9_down_103 rfl rfl (by rfl) ?_
              refine o_icmp_gt (tgt := 112) dX9_down_104 (by decide) rfl (fun (c104 : pace < (ab ((m 101 (9 * nI c + 3).toNatClampNeg) - (m 103 (nI c).toNatClampNeg)))) => ?_) (fun (c104 : ¬ pace < (ab ((m 101 (9 * nI c + 3).toNatClampNeg) - (m 103 (nI c).toNatClampNeg)))) => ?_)
              · skip
                refine o_iload_n dX9_down_112 rfl rfl (by rfl) ?_
                refine o_istore_n (L' := [(0, vC 94), (1, vI stp), (2, vI pace), (3, vI met), (4, vI (nI c))]) dX9_down_113 rfl rfl (by decide) (by rfl) (by rfl) ?_
                refine o_iinc (v := nI c - 1) (L' := [(0, vC 94), (1, vI stp), (2, vI pace), (3, vI met), (4, vI (nI c - 1))]) dX9_down_114 rfl (by rfl) (by exact dec1 (nI c)) (by decide) (by rfl) (by rfl) ?_
                refine o_goto (tgt := 47) dX9_down_117 (by decide) ?_
                exact ihLP47 c _ _ em9 (by omega) (hM.no (fun h9 => h9.2.2 (by rw [← hd.2.1, ← hd.2.2.2]; exact c104))) (by omega)
              · skip
                refine o_iload dX9_down_107 rfl (by rfl) ?_
                refine o_goto (tgt := 113) dX9_down_109 (by decide) ?_
                refine o_istore_n (L' := [(0, vC 94), (1, vI stp), (2, vI pace), (3, vI (nI c)), (4, vI (nI c))]) dX9_down_113 rfl rfl (by decide) (by rfl) (by rfl) ?_
                refine o_iinc (v := nI c - 1) (L' := [(0, vC 94), (1, vI stp), (2, vI pace), (3, vI (nI c)), (4, vI (nI c - 1))]) dX9_down_114 rfl (by rfl) (by exact dec1 (nI c)) (by decide) (by rfl) (by rfl) ?_
                refine o_goto (tgt := 47) dX9_down_117 (by decide) ?_
                exact ihLP47 c _ _ em9 (by omega) (MT.yes (by omega) ⟨by omega, by rw [← hd.1, ← hd.2.2.1]; exact c77, by rw [← hd.2.1, ← hd.2.2.2]; exact c104⟩) (by omega)
      exact LP47 101 100 (-4) _ rfl (by omega) (Or.inl ⟨rfl, fun i a b => by omega⟩) (by omega)
    · skip
      have b21 := (if10 h2).1 c21
      refine o_iconst (v := (-1)) dX9_down_24 rfl (by decide) ?_
      exact o_iret hq dX9_down_25 (Or.inl ⟨by simp [b9, b21], rfl, rfl⟩)
theorem RB.l15 {mu : Mu} {nc np : Nat} (hA : RB mu nc np) : mu 94 15 = -4 := by
  rcases hA.2.2.2.2.2.2.1 with ⟨-, h⟩ | ⟨i, h1, h2, -⟩
  · exact h
  · exact absurd h2.symm (nI_nem1 (by have := hA.nc.2.1; omega))
theorem RB.l17 {mu : Mu} {nc np : Nat} (hA : RB mu nc np) : mu 94 17 = 0 := hA.2.2.2.2.2.1.elim (fun h => h.2) (fun h => absurd (show (1 : Int32) = 0 from h.1) (by decide))
noncomputable abbrev aL (mu : Mu) (c : Nat) (lf : Int32) : TA := (mu 2 0, tget mu 9 0 1, tget mu 9 0 2, 1, nI c, lf)
theorem toka_lt {mu m : Mu} {nc np c : Nat} {lf : Int32} (hA : RB mu nc np) (hc : c < nc) (h : frR mu m) : TOKA (upF (upF m 94 15 (nI c)) 94 16 lf) (aL mu c lf) nc np ∧ tv (upF (upF m 94 15 (nI c)) 94 16 lf) = tv mu := by
  have cq : ∀ q, (q < 94 ∨ (94 < q ∧ q < 101)) → upF (upF m 94 15 (nI c)) 94 16 lf q = mu q := fun q hq => by rw [upF_k (by omega), upF_k (by omega)]; exact h.1 q (by omega)
  have c4 : ∀ j, j < 15 ∨ j = 17 → upF (upF m 94 15 (nI c)) 94 16 lf 94 j = mu 94 j := fun j hj => by rw [upF_i (by omega), upF_i (by omega)]; exact h.2 j (by omega)
  have h17 := hA.l17
  obtain ⟨a1, a2, a3, a4, a5, a6, a7, a8⟩ := hA
  refine ⟨⟨a1.cg (fun q _ b => cq q (by omega)), a2.cg (fun q hq => cq q (by omega)) (fun q b1 b2 => cq q (by omega)) (c4 1 (by omega)) (c4 3 (by omega)), a3, a4, a5, Or.inl ⟨rfl, by rw [c4 17 (by omega)]; exact h17⟩, Or.inr ⟨c, hc, rfl, by rw [upF_i (by decide), upF_s]⟩, Or.inr upF_s⟩, tv_cg a1.t9 (fun q _ b => cq q (by omega))⟩
/-- both grids stand -/
def MND (mu m : Mu) (c : Nat) (lf : Int32) : Prop := frM mu m ∧ ∀ k, k < 90 → m 104 k = cn (lG mu c lf k) ∧ m 105 k = cn (eG mu (mu 2 0) k)
theorem MND.mk {mu m1 m m4 : Mu} {nc np c : Nat} {lf : Int32} (hA : RB mu nc np) (hc : c < nc) (h1 : GRD mu m1 (aC mu (mu 2 0)) 90) (h2 : (∀ q, q ≠ 105 → m q = m1 q) ∧ ∀ i, i < 90 → m 105 i = m1 104 i) (hF : frR mu m) (h4 : GRD (upF (upF m 94 15 (nI c)) 94 16 lf) m4 (aL mu c lf) 90) : MND mu (upF m4 94 15 (-4)) c lf := by
  have et := (toka_lt (lf := lf) hA hc hF).2
  obtain ⟨a1, a2, a3⟩ := h1
  obtain ⟨b1, b2, b3⟩ := h4
  refine ⟨⟨fun q hq => ?_, fun j hj => ?_⟩, fun k hk => ⟨?_, ?_⟩⟩
  · rw [upF_k (by omega), b1.1 q (by omega), upF_k (by omega), upF_k (by omega)]; exact hF.1 q (by omega)
  · by_cases e : j = 15
    · rw [e, upF_s, hA.l15]
    · rw [upF_i e, b1.2 j (by omega), upF_i (by omega), upF_i e]; exact hF.2 j (by omega)
  · rw [upF_k (by decide), b3 k hk]; unfold eR; show cn (tv _ _ _ _ _ _ _ _ _) = _; rw [et]; rfl
  · rw [upF_k (by decide), b2 105 (by decide), upF_k (by decide), upF_k (by decide), h2.2 k hk, a3 k hk]; rfl
set_option maxHeartbeats 4000000 in
set_option maxRecDepth 100000 in
theorem c_X9_mended (mu : Mu) (nc np : Nat) (hA : RB mu nc np) (cup lf : Int32) : Con yX9_mended cX9_mended 5 (some .int) 5 [vC 94, vI cup, vI lf] mu (fun r mu2 => ((hsB (nI nc) cup && inB lf 0 99) = false ∧ r = -1 ∧ mu2 = mu) ∨ ((hsB (nI nc) cup && inB lf 0 99) = true ∧ mu 9 2 = 0 ∧ r = -2 ∧ mu2 = mu) ∨ ((hsB (nI nc) cup && inB lf 0 99) = true ∧ ¬ mu 9 2 = 0 ∧ frM mu mu2 ∧ ∃ c, cup = nI c ∧ c < nc ∧ r = mdS mu c lf 90)) := by
  refine con_of (own := RX9) (by decide) rfl (Nat.le_of_ble_eq_true rfl) (fun X g hq => ?_)
  show WA X g RX9 5 cX9_mended 0 [(0, vC 94), (1, vI cup), (2, vI lf)] [] mu
  refine o_aload_n dX9_mended_0 rfl rfl (by rfl) ?_
  refine o_iload_n dX9_mended_1 rfl rfl (by rfl) ?_
  refine o_callV cs_X9_isCup cv_X9_95 (c_X9_isCup _ nc (by have := hA.nc.2.1; omega) hA.nc.1 cup) hq.2.2.2 (Nat.le_of_ble_eq_true rfl) dX9_mended_2 rfl (by decide) (by rfl) (by rfl) (by rfl) rfl rfl (Nat.le_of_ble_eq_true rfl) (fun r1 mu1 h1 => ?_)
  obtain ⟨em, h1⟩ := h1
  rw [em]
  refine o_if_eq (tgt := 20) dX9_mended_5 (by decide) rfl (fun (c5 : r1 = 0) => ?_) (fun (c5 : ¬ r1 = 0) => ?_)
  · skip
    have b5 := (if10 h1).1 c5
    refine o_iconst (v := (-1)) dX9_mended_20 rfl (by decide) ?_
    exact o_iret hq dX9_mended_21 (Or.inl ⟨by simp [b5], rfl, rfl⟩)
  · skip
    have b5 := (if10 h1).2 c5
    refine o_iload_n dX9_mended_8 rfl rfl (by rfl) ?_
    refine o_i2l dX9_mended_9 rfl ?_
    refine o_lconst (v := 0) dX9_mended_10 rfl (by decide) ?_
    refine o_ldc2 dX9_mended_11 rfl kc_X9_89 ?_
    refine o_callS cs_X9_in ct_X9_71 (c_in _ lf 0 99) hq.2.2.2 (Nat.le_of_ble_eq_true rfl) dX9_mended_14 rfl rfl rfl (Nat.le_of_ble_eq_true rfl) (fun r2 mu2 h2 => ?_)
    obtain ⟨em, h2⟩ := h2
    rw [em]
    refine o_if_ne (tgt := 22) dX9_mended_17 (by decide) rfl (fun (c17 : ¬ r2 = 0) => ?_) (fun (c17 : r2 = 0) => ?_)
    · skip
      have b17 := (if10 h2).2 c17
      refine o_aload_n dX9_mended_22 rfl rfl (by rfl) ?_
      refine o_getI cl_X9_100 dX9_mended_23 rfl (by decide) (by rfl) (by rfl) ?_
      refine o_if_ne (tgt := 32) dX9_mended_26 (by decide) rfl (fun (c26 : ¬ (mu 94 3) = 0) => ?_) (fun (c26 : (mu 94 3) = 0) => ?_)
      · skip
        have hnc := hA.nc.2.1
        obtain ⟨c, ec, hc⟩ := hsB_nI (by omega) b5
        have n4 := nI_nem4 (show c < 2 ^ 31 by omega)
        have n1 := nI_nem1 (show c < 2 ^ 31 by omega)
        refine o_aload_n dX9_mended_32 rfl rfl (by rfl) ?_
        refine o_callVV cs_X9_grid cv_X9_232 (c_X9_grid _ _ nc np hA) hq.2.2.2 (Nat.le_of_ble_eq_true rfl) dX9_mended_33 rfl (by decide) (by rfl) (by rfl) (by rfl) rfl rfl (Nat.le_of_ble_eq_true rfl) (fun m1 hG => ?_)
        refine o_iconst (v := 0) dX9_mended_36 rfl (by decide) ?_
        refine o_istore_n (L' := [(0, vC 94), (1, vI cup), (2, vI lf), (3, vI 0)]) dX9_mended_37 rfl rfl (by decide) (by rfl) (by rfl) ?_
        have LP38 : ∀ (nLP38 : Nat) (k : Nat) (m : Mu) , (k ≤ 90) → ((∀ q, q ≠ 105 → m q = m1 q) ∧ ∀ i, i < k → m 105 i = m1 104 i) → (90 < k + nLP38) → WA X g RX9 5 cX9_mended 38 [(0, vC 94), (1, vI cup), (2, vI lf), (3, vI (nI k))] [] m := by
          intro nLP38
          induction nLP38 with
          | zero =>
            intro k m hk hP hm
            exact absurd hm (by omega)
          | succ nLP38 ihLP38 =>
            intro k m hk hP hm
            refine o_iload_n dX9_mended_38 rfl rfl (by rfl) ?_
            refine o_bipush (v := 90) dX9_mended_39 rfl (by decide) ?_
            refine o_icmp_ge (tgt := 62) dX9_mended_41 (by decide) rfl (fun (c41 : 90 ≤ (nI k)) => ?_) (fun (c41 : ¬ 90 ≤ (nI k)) => ?_)
            · skip
              have hk2 := nI_dec2 (b := 90) c41 (by omega) (by decide)
              have e2 : k = 90 := by omega
              have hFm : frR mu m := ⟨fun q hq9 => (hP.1 q (by omega)).trans (hG.1.1 q hq9), fun j hj => by rw [hP.1 94 (by decide)]; exact hG.1.2 j hj⟩
              rw [e2] at hP
              rw [ec]
              refine o_aload_n dX9_mended_62 rfl rfl (by rfl) ?_
              refine o_iload_n dX9_mended_63 rfl rfl (by rfl) ?_
              refine o_put cl_X9_37 cp_X9_15 dX9_mended_64 rfl (by decide) (by rfl) (by rfl) fitI ?_
              refine o_aload_n dX9_mended_67 rfl rfl (by rfl) ?_
              refine o_iload_n dX9_mended_68 rfl rfl (by rfl) ?_
              refine o_put cl_X9_212 cp_X9_16 dX9_mended_69 rfl (by decide) (by rfl) (by rfl) fitI ?_
              refine o_aload_n dX9_mended_72 rfl rfl (by rfl) ?_
              refine o_callVV cs_X9_grid cv_X9_232 (c_X9_grid _ _ nc np (toka_lt hA hc hFm).1) hq.2.2.2 (Nat.le_of_ble_eq_true rfl) dX9_mended_73 rfl (by decide) (by rfl) (by rfl) (by rfl) rfl rfl (Nat.le_of_ble_eq_true rfl) (fun m4 hG4 => ?_)
              have hN := MND.mk hA hc hG hP hFm hG4
              refine o_aload_n dX9_mended_76 rfl rfl (by rfl) ?_
              refine o_bipush (v := (-4)) dX9_mended_77 rfl (by decide) ?_
              refine o_put cl_X9_37 cp_X9_15 dX9_mended_79 rfl (by decide) (by rfl) (by rfl) fitI ?_
              refine o_iconst (v := 0) dX9_mended_82 rfl (by decide) ?_
              refine o_istore_n (L' := [(0, vC 94), (1, vI (nI c)), (2, vI lf), (3, vI 0)]) dX9_mended_83 rfl rfl (by decide) (by rfl) (by rfl) ?_
              refine o_iconst (v := 0) dX9_mended_84 rfl (by decide) ?_
              refine o_istore (L' := [(0, vC 94), (1, vI (nI c)), (2, vI lf), (3, vI 0), (4, vI 0)]) dX9_mended_85 rfl (by decide) (by rfl) (by rfl) ?_
              have LP87 : ∀ (nLP87 : Nat) (k : Nat) (m9 : Mu) , (k ≤ 90) → (MND mu m9 c lf) → (90 < k + nLP87) → WA X g RX9 5 cX9_mended 87 [(0, vC 94), (1, vI (nI c)), (2, vI lf), (3, vI (mdS mu c lf k)), (4, vI (nI k))] [] m9 := by
                intro nLP87
                induction nLP87 with
                | zero =>
                  intro k m9 hk hN9 hm
                  exact absurd hm (by omega)
                | succ nLP87 ihLP87 =>
                  intro k m9 hk hN9 hm
                  refine o_iload dX9_mended_87 rfl (by rfl) ?_
                  refine o_bipush (v := 90) dX9_mended_89 rfl (by decide) ?_
                  refine o_icmp_ge (tgt := 130) dX9_mended_91 (by decide) rfl (fun (c91 : 90 ≤ (nI k)) => ?_) (fun (c91 : ¬ 90 ≤ (nI k)) => ?_)
                  · skip
                    have hk2 := nI_dec2 (b := 90) c91 (by omega) (by decide)
                    have e2 : k = 90 := by omega
                    refine o_iload_n dX9_mended_130 rfl rfl (by rfl) ?_
                    exact o_iret hq dX9_mended_131 (Or.inr (Or.inr ⟨by simp [b5, b17], fun h9 => c26 (hA.z.mpr h9), hN9.1, c, ec, hc, by rw [e2]⟩))
                  · skip
                    have hk2 := nI_dec (b := 90) c91 (by omega) (by decide)
                    have hd := hN9.2 k hk2
                    have hd : m9 104 (nI k).toNatClampNeg = cn (lG mu c lf k) ∧ m9 105 (nI k).toNatClampNeg = cn (eG mu (mu 2 0) k) := by rw [nI_clamp (by omega)]; exact hd
                    refine o_iload_n dX9_mended_94 rfl rfl (by rfl) ?_
                    refine o_aload_n dX9_mended_95 rfl rfl (by rfl) ?_
                    refine o_getC (q := 104) cl_X9_41 dX9_mended_96 rfl (by decide) (by rfl) (by rfl) ?_
                    refine o_iload dX9_mended_99 rfl (by rfl) ?_
                    refine o_iald dX9_mended_101 rfl (by decide) (by rfl) (by rfl) (vp_in_nI hk2 (by decide)) ?_
                    refine o_iload_n dX9_mended_102 rfl rfl (by rfl) ?_
                    refine o_icmp_ne (tgt := 121) dX9_mended_103 (by decide) rfl (fun (c103 : ¬ (m9 104 (nI k).toNatClampNeg) = (nI c)) => ?_) (fun (c103 : (m9 104 (nI k).toNatClampNeg) = (nI c)) => ?_)
                    · skip
                      refine o_iconst (v := 0) dX9_mended_121 rfl (by decide) ?_
                      refine o_iadd dX9_mended_122 rfl ?_
                      refine o_istore_n (L' := [(0, vC 94), (1, vI (nI c)), (2, vI lf), (3, vI ((mdS mu c lf k) + 0)), (4, vI (nI k))]) dX9_mended_123 rfl rfl (by decide) (by rfl) (by rfl) ?_
                      refine o_iinc (v := nI (k + 1)) (L' := [(0, vC 94), (1, vI (nI c)), (2, vI lf), (3, vI ((mdS mu c lf k) + 0)), (4, vI (nI (k + 1)))]) dX9_mended_124 rfl (by rfl) (by exact nI_1 k) (by decide) (by rfl) (by rfl) ?_
                      refine o_goto (tgt := 87) dX9_mended_127 (by decide) ?_
                      rw [show ((mdS mu c lf k) + 0) = mdS mu c lf (k + 1) by show _ = mdS mu c lf k + (if ¬ eG mu (mu 2 0) k = nI c ∧ lG mu c lf k = nI c then 1 else 0); rw [if_neg (fun h => c103 (by rw [hd.1]; exact (cn_eq n4 n1).mpr h.2))]]
                      exact ihLP87 (k + 1) _ (by omega) hN9 (by omega)
                    · skip
                      refine o_aload_n dX9_mended_106 rfl rfl (by rfl) ?_
                      refine o_getC (q := 105) cl_X9_44 dX9_mended_107 rfl (by decide) (by rfl) (by rfl) ?_
                      refine o_iload dX9_mended_110 rfl (by rfl) ?_
                      refine o_iald dX9_mended_112 rfl (by decide) (by rfl) (by rfl) (vp_in_nI hk2 (by decide)) ?_
                      refine o_iload_n dX9_mended_113 rfl rfl (by rfl) ?_
                      refine o_icmp_eq (tgt := 121) dX9_mended_114 (by decide) rfl (fun (c114 : (m9 105 (nI k).toNatClampNeg) = (nI c)) => ?_) (fun (c114 : ¬ (m9 105 (nI k).toNatClampNeg) = (nI c)) => ?_)
                      · skip
                        refine o_iconst (v := 0) dX9_mended_121 rfl (by decide) ?_
                        refine o_iadd dX9_mended_122 rfl ?_
                        refine o_istore_n (L' := [(0, vC 94), (1, vI (nI c)), (2, vI lf), (3, vI ((mdS mu c lf k) + 0)), (4, vI (nI k))]) dX9_mended_123 rfl rfl (by decide) (by rfl) (by rfl) ?_
                        refine o_iinc (v := nI (k + 1)) (L' := [(0, vC 94), (1, vI (nI c)), (2, vI lf), (3, vI ((mdS mu c lf k) + 0)), (4, vI (nI (k + 1)))]) dX9_mended_124 rfl (by rfl) (by exact nI_1 k) (by decide) (by rfl) (by rfl) ?_
                        refine o_goto (tgt := 87) dX9_mended_127 (by decide) ?_
                        rw [show ((mdS mu c lf k) + 0) = mdS mu c lf (k + 1) by show _ = mdS mu c lf k + (if ¬ eG mu (mu 2 0) k = nI c ∧ lG mu c lf k = nI c then 1 else 0); rw [if_neg (fun h => h.1 (by rw [hd.2] at c114; exact (cn_eq n4 n1).mp c114))]]
                        exact ihLP87 (k + 1) _ (by omega) hN9 (by omega)
                      · skip
                        refine o_iconst (v := 1) dX9_mended_117 rfl (by decide) ?_
                        refine o_goto (tgt := 122) dX9_mended_118 (by decide) ?_
                        refine o_iadd dX9_mended_122 rfl ?_
                        refine o_istore_n (L' := [(0, vC 94), (1, vI (nI c)), (2, vI lf), (3, vI ((mdS mu c lf k) + 1)), (4, vI (nI k))]) dX9_mended_123 rfl rfl (by decide) (by rfl) (by rfl) ?_
                        refine o_iinc (v := nI (k + 1)) (L' := [(0, vC 94), (1, vI (nI c)), (2, vI lf), (3, vI ((mdS mu c lf k) + 1)), (4, vI (nI (k + 1)))]) dX9_mended_124 rfl (by rfl) (by exact nI_1 k) (by decide) (by rfl) (by rfl) ?_
                        refine o_goto (tgt := 87) dX9_mended_127 (by decide) ?_
                        rw [show ((mdS mu c lf k) + 1) = mdS mu c lf (k + 1) by show _ = mdS mu c lf k + (if ¬ eG mu (mu 2 0) k = nI c ∧ lG mu c lf k = nI c then 1 else 0); rw [if_pos ⟨fun h => c114 (by rw [hd.2]; exact (cn_eq n4 n1).mpr h), by rw [hd.1] at c103; exact (cn_eq n4 n1).mp c103⟩]]
                        exact ihLP87 (k + 1) _ (by omega) hN9 (by omega)
              exact LP87 91 0 _ (by omega) hN (by omega)
            · skip
              have hk2 := nI_dec (b := 90) c41 (by omega) (by decide)
              refine o_aload_n dX9_mended_44 rfl rfl (by rfl) ?_
              refine o_getC (q := 105) cl_X9_44 dX9_mended_45 rfl (by decide) (by rfl) (by rfl) ?_
              refine o_iload_n dX9_mended_48 rfl rfl (by rfl) ?_
              refine o_aload_n dX9_mended_49 rfl rfl (by rfl) ?_
              refine o_getC (q := 104) cl_X9_41 dX9_mended_50 rfl (by decide) (by rfl) (by rfl) ?_
              refine o_iload_n dX9_mended_53 rfl rfl (by rfl) ?_
              refine o_iald dX9_mended_54 rfl (by decide) (by rfl) (by rfl) (vp_in_nI hk2 (by decide)) ?_
              refine o_iast dX9_mended_55 rfl (by decide) (by rfl) (by rfl) (vp_in_nI hk2 (by decide)) ?_
              refine o_iinc (v := nI (k + 1)) (L' := [(0, vC 94), (1, vI cup), (2, vI lf), (3, vI (nI (k + 1)))]) dX9_mended_56 rfl (by rfl) (by exact nI_1 k) (by decide) (by rfl) (by rfl) ?_
              refine o_goto (tgt := 38) dX9_mended_59 (by decide) ?_
              exact ihLP38 (k + 1) _ (by omega) ⟨fun q hq9 => by rw [upF_k hq9]; exact hP.1 q hq9, fun i hi => by rw [nI_clamp (by omega)]; by_cases e : i = k; rw [e, upF_s, hP.1 104 (by decide)]; rw [upF_i e]; exact hP.2 i (by omega)⟩ (by omega)
        exact LP38 91 0 _ (by omega) ⟨fun _ _ => rfl, fun i h => by omega⟩ (by omega)
      · skip
        refine o_bipush (v := (-2)) dX9_mended_29 rfl (by decide) ?_
        exact o_iret hq dX9_mended_31 (Or.inr (Or.inl ⟨by simp [b5, b17], hA.z.mp c26, rfl, rfl⟩))
    · skip
      have b17 := (if10 h2).1 c17
      refine o_iconst (v := (-1)) dX9_mended_20 rfl (by decide) ?_
      exact o_iret hq dX9_mended_21 (Or.inl ⟨by simp [b5, b17], rfl, rfl⟩)
