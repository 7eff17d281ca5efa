/-! ===== filmed ===== -/
def shP (mu : Mu) (a I N k : Nat) : Prop := ∀ p, p < N → mu (90 + a) (I + 2 * p) = tv mu (mu 2 0) (gU k) (gV k) 1 (-1) 0 (p + 1) 0 ∧ mu (90 + a) (I + 2 * p + 1) = tv mu (mu 2 0) (gU k) (gV k) 1 (-1) 0 (p + 1) 1
noncomputable def shV (mu : Mu) (a I N k : Nat) : Int32 := Classical.epsilon (fun r => (r = 1 ∧ shP mu a I N k) ∨ (r = 0 ∧ ¬ shP mu a I N k))
theorem shV_sp (mu : Mu) (a I N k : Nat) : (shV mu a I N k = 1 ∧ shP mu a I N k) ∨ (shV mu a I N k = 0 ∧ ¬ shP mu a I N k) := by
  refine Classical.epsilon_spec (p := fun r : Int32 => (r = 1 ∧ shP mu a I N k) ∨ (r = 0 ∧ ¬ shP mu a I N k)) ?_
  rcases Classical.em (shP mu a I N k) with h | h
  · exact ⟨1, Or.inl ⟨rfl, h⟩⟩
  · exact ⟨0, Or.inr ⟨rfl, h⟩⟩
theorem shV_is {mu : Mu} {a I N k : Nat} {r : Int32} (h : (r = 1 ∧ shP mu a I N k) ∨ (r = 0 ∧ ¬ shP mu a I N k)) : shV mu a I N k = r := by
  rcases shV_sp mu a I N k with ⟨e, p⟩ | ⟨e, p⟩ <;> rcases h with ⟨e2, p2⟩ | ⟨e2, p2⟩
  · rw [e, e2]
  · exact absurd p p2
  · exact absurd p2 p
  · rw [e, e2]
theorem e2p (I p : Nat) : nI I + 2 * nI p = nI (I + 2 * p) := by rw [show (2 : Int32) = nI 2 from rfl, pk_mul, nI_add]
theorem get_fit {m mu : Mu} {a z J : Nat} {r : Int32} (e88 : m 88 a = nI z) (hz : z ≤ 24) (hJ : J < z) (h90 : m (90 + a) = mu (90 + a)) (h : r = if fitB (m 88 a) (nI J) 1 = true then m (90 + a) (nI J).toNatClampNeg else 0) : r = mu (90 + a) J := by
  rw [h, e88, if_pos, nI_clamp (by omega), h90]
  apply decide_eq_true
  refine ⟨nI_pos (by omega), by decide, nI_nlt (by omega) (by omega), ?_⟩
  rw [pk_sub (by omega)]
  exact nI_nlt (b := 1) (by omega) (by omega)
set_option maxHeartbeats 4000000 in
set_option maxRecDepth 100000 in
theorem c_X8_isShown (mu : Mu) (hS : SOK mu 1) (hH : HOK mu) (k a I N zz : Nat) (hk : k < 90) (ha : a < 4) (hN : N ≤ 12) (hzz : zz ≤ 24) (e88 : mu 88 a = nI zz) (hIN : I + 2 * N ≤ zz) : Con yX8_isShown cX8_isShown 7 (some .boolean) 5 [vC 0, vI (nI k), vI (nI a), vI (nI I), vI (nI N)] mu (fun r mu2 => fr2 mu mu2 ∧ ((r = 1 ∧ shP mu a I N k) ∨ (r = 0 ∧ ¬ shP mu a I N k))) := by
  refine con_of (own := RX8) (by decide) rfl (Nat.le_of_ble_eq_true rfl) (fun X g hq => ?_)
  show WA X g RX8 7 cX8_isShown 0 [(0, vC 0), (1, vI (nI k)), (2, vI (nI a)), (3, vI (nI I)), (4, vI (nI N))] [] mu
  obtain ⟨nc, hz, ez⟩ := hS.nc
  refine o_aload_n dX8_isShown_0 rfl rfl (by rfl) ?_
  refine o_getC (q := 53) cl_X8_28 dX8_isShown_1 rfl (by decide) (by rfl) (by rfl) ?_
  refine o_aload_n dX8_isShown_4 rfl rfl (by rfl) ?_
  refine o_getC (q := 1) cl_X8_10 dX8_isShown_5 rfl (by decide) (by rfl) (by rfl) ?_
  refine o_getC (q := 2) cl_X8_71 dX8_isShown_8 rfl (by decide) (by rfl) (by rfl) ?_
  refine o_iconst (v := 0) dX8_isShown_11 rfl (by decide) ?_
  refine o_iald dX8_isShown_12 rfl (by decide) (by rfl) (by rfl) (vp_in_nI (n := 0) (by decide) (by decide)) ?_
  refine o_iload_n dX8_isShown_13 rfl rfl (by rfl) ?_
  refine o_callS cs_X0_uOf ct_X8_218 (c_X0_uOf _ k hk) hq.2.2.2 (Nat.le_of_ble_eq_true rfl) dX8_isShown_14 rfl rfl rfl (Nat.le_of_ble_eq_true rfl) (fun r1 mu1 h1 => ?_)
  obtain ⟨em, h1⟩ := h1
  rw [em]
  subst h1
  refine o_iload_n dX8_isShown_17 rfl rfl (by rfl) ?_
  refine o_callS cs_X0_vOf ct_X8_221 (c_X0_vOf _ k hk) hq.2.2.2 (Nat.le_of_ble_eq_true rfl) dX8_isShown_18 rfl rfl rfl (Nat.le_of_ble_eq_true rfl) (fun r2 mu2 h2 => ?_)
  obtain ⟨em, h2⟩ := h2
  rw [em]
  subst h2
  refine o_callVV cs_X7_begin cv_X8_298 (c_X7_begin _ (mu 2 0) (gU k) (gV k)) hq.2.2.2 (Nat.le_of_ble_eq_true rfl) dX8_isShown_21 rfl (by decide) (by rfl) (by rfl) (by rfl) rfl rfl (Nat.le_of_ble_eq_true rfl) (fun m0 hb0 => ?_)
  have hB := Beg.of hb0
  have hOK := hB.ok hS hS.1.1 (gU_rg hk) gV_rg ez hz (Or.inl rfl)
  refine o_iconst (v := 0) dX8_isShown_24 rfl (by decide) ?_
  refine o_istore (L' := [(0, vC 0), (1, vI (nI k)), (2, vI (nI a)), (3, vI (nI I)), (4, vI (nI N)), (5, vI 0)]) dX8_isShown_25 rfl (by decide) (by rfl) (by rfl) ?_
  have LP27 : ∀ (nLP27 : Nat) (p : Nat) (m : Mu) , (p ≤ N) → (TS m0 (gU k) (gV k) nc p m) → (∀ i, i < p → mu (90 + a) (I + 2 * i) = tv mu (mu 2 0) (gU k) (gV k) 1 (-1) 0 (i + 1) 0 ∧ mu (90 + a) (I + 2 * i + 1) = tv mu (mu 2 0) (gU k) (gV k) 1 (-1) 0 (i + 1) 1) → (N < p + nLP27) → WA X g RX8 7 cX8_isShown 27 [(0, vC 0), (1, vI (nI k)), (2, vI (nI a)), (3, vI (nI I)), (4, vI (nI N)), (5, vI (nI p))] [] m := by
    intro nLP27
    induction nLP27 with
    | zero =>
      intro p m hp hT hA hm
      exact absurd hm (by omega)
    | succ nLP27 ihLP27 =>
      intro p m hp hT hA hm
      refine o_iload dX8_isShown_27 rfl (by rfl) ?_
      refine o_iload dX8_isShown_29 rfl (by rfl) ?_
      refine o_icmp_ge (tgt := 103) dX8_isShown_31 (by decide) rfl (fun (c31 : (nI N) ≤ (nI p)) => ?_) (fun (c31 : ¬ (nI N) ≤ (nI p)) => ?_)
      · skip
        have hpn := nI_dec2 c31 (by omega) (by omega)
        have ep : p = N := by omega
        refine o_iconst (v := 1) dX8_isShown_103 rfl (by decide) ?_
        exact o_zret hq dX8_isShown_104 (Or.inr rfl) ⟨(hT.tv hB hS ez hz (Or.inl rfl)).1, Or.inl ⟨rfl, fun i hi => hA i (by omega)⟩⟩
      · skip
        have hpn := nI_dec c31 (by omega) (by omega)
        refine o_aload_n dX8_isShown_34 rfl rfl (by rfl) ?_
        refine o_getC (q := 53) cl_X8_28 dX8_isShown_35 rfl (by decide) (by rfl) (by rfl) ?_
        refine o_iload dX8_isShown_38 rfl (by rfl) ?_
        refine o_iconst (v := 1) dX8_isShown_40 rfl (by decide) ?_
        refine o_iadd dX8_isShown_41 rfl ?_
        rw [nI_1]
        refine o_callVV cs_X7_goOn cv_X8_138 (c_X7_goOn _ _ _ nc hOK.1 m p (p + 1) (by omega) (by omega) hT) hq.2.2.2 (Nat.le_of_ble_eq_true rfl) dX8_isShown_42 rfl (by decide) (by rfl) (by rfl) (by rfl) rfl rfl (Nat.le_of_ble_eq_true rfl) (fun mG hG => ?_)
        have hF := hG.tv hB hS ez hz (Or.inl rfl)
        have e88G : mG 88 a = nI zz := by rw [hF.1 88 (by decide) (by decide)]; exact e88
        have hHG : HOK mG := fun q hq => by rw [hF.1 88 (by decide) (by decide)]; exact hH q hq
        have h90 : mG (90 + a) = mu (90 + a) := hF.1 (90 + a) (by omega) (by omega)
        refine o_iload_n dX8_isShown_45 rfl rfl (by rfl) ?_
        refine o_iconst (v := 2) dX8_isShown_46 rfl (by decide) ?_
        refine o_iload dX8_isShown_47 rfl (by rfl) ?_
        refine o_imul dX8_isShown_49 rfl ?_
        refine o_iadd dX8_isShown_50 rfl ?_
        rw [e2p]
        refine o_istore (L' := [(0, vC 0), (1, vI (nI k)), (2, vI (nI a)), (3, vI (nI I)), (4, vI (nI N)), (5, vI (nI p)), (6, vI (nI (I + 2 * p)))]) dX8_isShown_51 rfl (by decide) (by rfl) (by rfl) ?_
        refine o_aload_n dX8_isShown_53 rfl rfl (by rfl) ?_
        refine o_getC (q := 86) cl_X8_56 dX8_isShown_54 rfl (by decide) (by rfl) (by rfl) ?_
        refine o_iload_n dX8_isShown_57 rfl rfl (by rfl) ?_
        refine o_iload dX8_isShown_58 rfl (by rfl) ?_
        refine o_callV cs_X5_get cv_X8_301 (c_X5_get _ hHG a ha (nI (I + 2 * p))) hq.2.2.2 (Nat.le_of_ble_eq_true rfl) dX8_isShown_60 rfl (by decide) (by rfl) (by rfl) (by rfl) rfl rfl (Nat.le_of_ble_eq_true rfl) (fun r60 mr60 h60 => ?_)
        obtain ⟨em, h60⟩ := h60
        rw [em]
        have h60 := get_fit e88G hzz (by omega) h90 h60
        refine o_aload_n dX8_isShown_63 rfl rfl (by rfl) ?_
        refine o_getC (q := 53) cl_X8_28 dX8_isShown_64 rfl (by decide) (by rfl) (by rfl) ?_
        refine o_getI cl_X8_141 dX8_isShown_67 rfl (by decide) (by rfl) (by rfl) ?_
        refine o_icmp_ne (tgt := 95) dX8_isShown_70 (by decide) rfl (fun (c70 : ¬ r60 = (mG 53 6)) => ?_) (fun (c70 : r60 = (mG 53 6)) => ?_)
        · skip
          refine o_iconst (v := 0) dX8_isShown_95 rfl (by decide) ?_
          exact o_zret hq dX8_isShown_96 (Or.inl rfl) ⟨hF.1, Or.inr ⟨rfl, fun h => c70 (by rw [h60, (h p hpn).1]; exact (hF.2 0 (by decide)).symm)⟩⟩
        · skip
          refine o_aload_n dX8_isShown_73 rfl rfl (by rfl) ?_
          refine o_getC (q := 86) cl_X8_56 dX8_isShown_74 rfl (by decide) (by rfl) (by rfl) ?_
          refine o_iload_n dX8_isShown_77 rfl rfl (by rfl) ?_
          refine o_iload dX8_isShown_78 rfl (by rfl) ?_
          refine o_iconst (v := 1) dX8_isShown_80 rfl (by decide) ?_
          refine o_iadd dX8_isShown_81 rfl ?_
          rw [nI_1]
          refine o_callV cs_X5_get cv_X8_301 (c_X5_get _ hHG a ha (nI (I + 2 * p + 1))) hq.2.2.2 (Nat.le_of_ble_eq_true rfl) dX8_isShown_82 rfl (by decide) (by rfl) (by rfl) (by rfl) rfl rfl (Nat.le_of_ble_eq_true rfl) (fun r82 mr82 h82 => ?_)
          obtain ⟨em, h82⟩ := h82
          rw [em]
          have h82 := get_fit e88G hzz (by omega) h90 h82
          refine o_aload_n dX8_isShown_85 rfl rfl (by rfl) ?_
          refine o_getC (q := 53) cl_X8_28 dX8_isShown_86 rfl (by decide) (by rfl) (by rfl) ?_
          refine o_getI cl_X8_144 dX8_isShown_89 rfl (by decide) (by rfl) (by rfl) ?_
          refine o_icmp_eq (tgt := 97) dX8_isShown_92 (by decide) rfl (fun (c92 : r82 = (mG 53 7)) => ?_) (fun (c92 : ¬ r82 = (mG 53 7)) => ?_)
          · skip
            refine o_iinc (v := nI (p + 1)) (L' := [(0, vC 0), (1, vI (nI k)), (2, vI (nI a)), (3, vI (nI I)), (4, vI (nI N)), (5, vI (nI (p + 1))), (6, vI (nI (I + 2 * p)))]) dX8_isShown_97 rfl (by rfl) (by exact nI_1 p) (by decide) (by rfl) (by rfl) ?_
            refine o_goto (tgt := 27) dX8_isShown_100 (by decide) ?_
            refine o_pick (L' := [(0, vC 0), (1, vI (nI k)), (2, vI (nI a)), (3, vI (nI I)), (4, vI (nI N)), (5, vI (nI (p + 1)))]) [0, 1, 2, 3, 4, 5] (by rfl) ?_
            exact ihLP27 (p + 1) _ (by omega) hG (lt_s hA ⟨by rw [← h60, c70]; exact hF.2 0 (by decide), by rw [← h82, c92]; exact hF.2 1 (by decide)⟩) (by omega)
          · skip
            refine o_iconst (v := 0) dX8_isShown_95 rfl (by decide) ?_
            exact o_zret hq dX8_isShown_96 (Or.inl rfl) ⟨hF.1, Or.inr ⟨rfl, fun h => c92 (by rw [h82, (h p hpn).2]; exact (hF.2 1 (by decide)).symm)⟩⟩
  exact LP27 (N + 1) 0 _ (by omega) hOK.2 (fun i h => by omega) (by omega)
def fm (f : Nat → Int32) : Nat → Int32 × Int32
  | 0 => (-1, 0)
  | k + 1 => if f k = 0 then fm f k else ((if (fm f k).2 = 0 then nI k else (fm f k).1), (fm f k).2 + 1)
theorem fm_inv (f : Nat → Int32) : ∀ n, n ≤ 90 → ∃ c, c ≤ n ∧ (fm f n).2 = nI c ∧ (c ≠ 0 → ∃ k, k < n ∧ (fm f n).1 = nI k)
  | 0, _ => ⟨0, by omega, rfl, fun h => absurd rfl h⟩
  | n + 1, hn => by
    obtain ⟨c, h1, h2, h3⟩ := fm_inv f n (by omega)
    show ∃ c, c ≤ n + 1 ∧ (if f n = 0 then fm f n else ((if (fm f n).2 = 0 then nI n else (fm f n).1), (fm f n).2 + 1)).2 = nI c ∧ (c ≠ 0 → ∃ k, k < n + 1 ∧ (if f n = 0 then fm f n else ((if (fm f n).2 = 0 then nI n else (fm f n).1), (fm f n).2 + 1)).1 = nI k)
    by_cases e : f n = 0
    · rw [if_pos e]
      exact ⟨c, by omega, h2, fun h => by obtain ⟨k, k1, k2⟩ := h3 h; exact ⟨k, by omega, k2⟩⟩
    · rw [if_neg e]
      refine ⟨c + 1, by omega, by show (fm f n).2 + 1 = _; rw [h2, nI_1], fun _ => ?_⟩
      show ∃ k, k < n + 1 ∧ (if (fm f n).2 = 0 then nI n else (fm f n).1) = nI k
      by_cases e2 : (fm f n).2 = 0
      · rw [if_pos e2]; exact ⟨n, by omega, rfl⟩
      · rw [if_neg e2]
        have hc : c ≠ 0 := fun q => e2 (by rw [h2, q]; rfl)
        obtain ⟨k, k1, k2⟩ := h3 hc
        exact ⟨k, by omega, k2⟩
def fmR (p : Int32 × Int32) (what : Int32) : Int32 := if what = 0 then p.2 else if p.2 = 0 then -100004 else if what = 1 then gU p.1.toNatClampNeg else gV p.1.toNatClampNeg
theorem sh_cg {m mu : Mu} {a : Nat} (ha : a < 4) (hO : TOK mu 9 6 3) (h : fr2 mu m) : shV m a = shV mu a := by
  have et : tv m = tv mu := tv_cg hO (fun q a b => h q (by omega) (by omega))
  have e : shP m a = shP mu a := by
    funext I N k
    unfold shP
    rw [et, h 2 (by decide) (by decide), h (90 + a) (by omega) (by omega)]
  funext I N k
  unfold shV
  rw [e]
set_option maxHeartbeats 4000000 in
set_option maxRecDepth 100000 in
theorem c_X8_filmed (mu : Mu) (hS : SOK mu 1) (hH : HOK mu) (sh0 l i n what : Int32) : Con yX8_filmed cX8_filmed 10 (some .int) 6 [vC 0, vI sh0, vI l, vI i, vI n, vI what] mu (fun r mu2 => ((inB sh0 0 3 && inB l 0 2 && inB n 1 12 && inB what 0 2) = false ∧ r = -100001 ∧ mu2 = mu) ∨ ((inB sh0 0 3 && inB l 0 2 && inB n 1 12 && inB what 0 2) = true ∧ ∃ a N, a < 4 ∧ sh0 = nI a ∧ n = nI N ∧ 1 ≤ N ∧ N ≤ 12 ∧ ((¬ refV mu a l i (2 * n) = 0 ∧ r = refV mu a l i (2 * n) - 100000 ∧ mu2 = mu) ∨ (refV mu a l i (2 * n) = 0 ∧ ((mu 9 2 = 0 ∧ r = -100002 ∧ mu2 = mu) ∨ (¬ mu 9 2 = 0 ∧ fr2 mu mu2 ∧ ∃ I, i = nI I ∧ I + 2 * N ≤ 24 ∧ r = fmR (fm (shV mu a I N) 90) what)))))) := by
  refine con_of (own := RX8) (by decide) rfl (Nat.le_of_ble_eq_true rfl) (fun X g hq => ?_)
  show WA X g RX8 10 cX8_filmed 0 [(0, vC 0), (1, vI sh0), (2, vI l), (3, vI i), (4, vI n), (5, vI what)] [] mu
  refine o_iload_n dX8_filmed_0 rfl rfl (by rfl) ?_
  refine o_iload_n dX8_filmed_1 rfl rfl (by rfl) ?_
  refine o_callS cs_X8_isRow ct_X8_258 (c_X8_isRow _ sh0 l) hq.2.2.2 (Nat.le_of_ble_eq_true rfl) dX8_filmed_2 rfl rfl rfl (Nat.le_of_ble_eq_true rfl) (fun r1 mu1 h1 => ?_)
  obtain ⟨em, h1⟩ := h1
  rw [em]
  refine o_if_eq (tgt := 29) dX8_filmed_5 (by decide) rfl (fun (c5 : r1 = 0) => ?_) (fun (c5 : ¬ r1 = 0) => ?_)
  · skip
    have b5 := (if10 h1).1 c5
    refine o_ldc dX8_filmed_29 rfl kc_X8_92 ?_
    exact o_iret hq dX8_filmed_31 (Or.inl ⟨by simp [b5], rfl, rfl⟩)
  · skip
    have b5 := (if10 h1).2 c5
    refine o_iload dX8_filmed_8 rfl (by rfl) ?_
    refine o_iconst (v := 1) dX8_filmed_10 rfl (by decide) ?_
    refine o_bipush (v := 12) dX8_filmed_11 rfl (by decide) ?_
    refine o_callS cs_X8_isIn ct_X8_60 (c_isIn _ n 1 12) hq.2.2.2 (Nat.le_of_ble_eq_true rfl) dX8_filmed_13 rfl rfl rfl (Nat.le_of_ble_eq_true rfl) (fun r2 mu2 h2 => ?_)
    obtain ⟨em, h2⟩ := h2
    rw [em]
    refine o_if_eq (tgt := 29) dX8_filmed_16 (by decide) rfl (fun (c16 : r2 = 0) => ?_) (fun (c16 : ¬ r2 = 0) => ?_)
    · skip
      have b16 := (if10 h2).1 c16
      refine o_ldc dX8_filmed_29 rfl kc_X8_92 ?_
      exact o_iret hq dX8_filmed_31 (Or.inl ⟨by simp [b5, b16], rfl, rfl⟩)
    · skip
      have b16 := (if10 h2).2 c16
      refine o_iload dX8_filmed_19 rfl (by rfl) ?_
      refine o_iconst (v := 0) dX8_filmed_21 rfl (by decide) ?_
      refine o_iconst (v := 2) dX8_filmed_22 rfl (by decide) ?_
      refine o_callS cs_X8_isIn ct_X8_60 (c_isIn _ what 0 2) hq.2.2.2 (Nat.le_of_ble_eq_true rfl) dX8_filmed_23 rfl rfl rfl (Nat.le_of_ble_eq_true rfl) (fun r3 mu3 h3 => ?_)
      obtain ⟨em, h3⟩ := h3
      rw [em]
      refine o_if_ne (tgt := 32) dX8_filmed_26 (by decide) rfl (fun (c26 : ¬ r3 = 0) => ?_) (fun (c26 : r3 = 0) => ?_)
      · skip
        have b26 := (if10 h3).2 c26
        obtain ⟨a, ea, -, ha⟩ := inB_nI (l := 0) (m := 3) (by decide) (by decide) (by have h := b5; simp only [Bool.and_eq_true] at h; exact h.1)
        subst ea
        obtain ⟨N, eN, hN1, hN⟩ := inB_nI (l := 1) (m := 12) (by decide) (by decide) b16
        subst eN
        refine o_aload_n dX8_filmed_32 rfl rfl (by rfl) ?_
        refine o_getC (q := 86) cl_X8_56 dX8_filmed_33 rfl (by decide) (by rfl) (by rfl) ?_
        refine o_iload_n dX8_filmed_36 rfl rfl (by rfl) ?_
        refine o_iload_n dX8_filmed_37 rfl rfl (by rfl) ?_
        refine o_iload_n dX8_filmed_38 rfl rfl (by rfl) ?_
        refine o_iconst (v := 2) dX8_filmed_39 rfl (by decide) ?_
        refine o_iload dX8_filmed_40 rfl (by rfl) ?_
        refine o_imul dX8_filmed_42 rfl ?_
        refine o_callV cs_X5_refusalOf cv_X8_262 (c_X5_refusalOf _ a (by omega) l i (2 * (nI N))) hq.2.2.2 (Nat.le_of_ble_eq_true rfl) dX8_filmed_43 rfl (by decide) (by rfl) (by rfl) (by rfl) rfl rfl (Nat.le_of_ble_eq_true rfl) (fun rR mR hR => ?_)
        obtain ⟨em, hR⟩ := hR
        rw [em]
        refine o_istore (L' := [(0, vC 0), (1, vI (nI a)), (2, vI l), (3, vI i), (4, vI (nI N)), (5, vI what), (6, vI rR)]) dX8_filmed_46 rfl (by decide) (by rfl) (by rfl) ?_
        refine o_iload dX8_filmed_48 rfl (by rfl) ?_
        refine o_if_eq (tgt := 60) dX8_filmed_50 (by decide) rfl (fun (c50 : rR = 0) => ?_) (fun (c50 : ¬ rR = 0) => ?_)
        · skip
          rw [hR] at c50
          refine o_aload_n dX8_filmed_60 rfl rfl (by rfl) ?_
          refine o_getC (q := 1) cl_X8_10 dX8_filmed_61 rfl (by decide) (by rfl) (by rfl) ?_
          refine o_callV cs_X4_hasNoPart cv_X8_189 (c_noPart _) hq.2.2.2 (Nat.le_of_ble_eq_true rfl) dX8_filmed_64 rfl (by decide) (by rfl) (by rfl) (by rfl) rfl rfl (Nat.le_of_ble_eq_true rfl) (fun r5 mu5 h5 => ?_)
          obtain ⟨em, h5⟩ := h5
          rw [em]
          refine o_if_eq (tgt := 73) dX8_filmed_67 (by decide) rfl (fun (c67 : r5 = 0) => ?_) (fun (c67 : ¬ r5 = 0) => ?_)
          · skip
            have b67 := (if10 h5).1 c67
            obtain ⟨n87, n88, hfit⟩ := ref_fit c50
            obtain ⟨zz, I, N2, e88, hzz, eI, eN2, hIN⟩ := fit_nI hH (by omega) hfit
            subst eI
            have hIN2 := two_IN eN2 hN hIN hzz
            refine o_iconst (v := (-1)) dX8_filmed_73 rfl (by decide) ?_
            refine o_istore (L' := [(0, vC 0), (1, vI (nI a)), (2, vI l), (3, vI (nI I)), (4, vI (nI N)), (5, vI what), (6, vI rR), (7, vI ((-1)))]) dX8_filmed_74 rfl (by decide) (by rfl) (by rfl) ?_
            refine o_iconst (v := 0) dX8_filmed_76 rfl (by decide) ?_
            refine o_istore (L' := [(0, vC 0), (1, vI (nI a)), (2, vI l), (3, vI (nI I)), (4, vI (nI N)), (5, vI what), (6, vI rR), (7, vI ((-1))), (8, vI 0)]) dX8_filmed_77 rfl (by decide) (by rfl) (by rfl) ?_
            refine o_iconst (v := 0) dX8_filmed_79 rfl (by decide) ?_
            refine o_istore (L' := [(0, vC 0), (1, vI (nI a)), (2, vI l), (3, vI (nI I)), (4, vI (nI N)), (5, vI what), (6, vI rR), (7, vI ((-1))), (8, vI 0), (9, vI 0)]) dX8_filmed_80 rfl (by decide) (by rfl) (by rfl) ?_
            have LP82 : ∀ (nLP82 : Nat) (k : Nat) (m : Mu) , (k ≤ 90) → (fr2 mu m) → (90 < k + nLP82) → WA X g RX8 10 cX8_filmed 82 [(0, vC 0), (1, vI (nI a)), (2, vI l), (3, vI (nI I)), (4, vI (nI N)), (5, vI what), (6, vI rR), (7, vI ((fm (shV mu a I N) k).1)), (8, vI ((fm (shV mu a I N) k).2)), (9, vI (nI k))] [] m := by
              intro nLP82
              induction nLP82 with
              | zero =>
                intro k m hk hF hm
                exact absurd hm (by omega)
              | succ nLP82 ihLP82 =>
                intro k m hk hF hm
                refine o_iload dX8_filmed_82 rfl (by rfl) ?_
                refine o_bipush (v := 90) dX8_filmed_84 rfl (by decide) ?_
                refine o_icmp_ge (tgt := 125) dX8_filmed_86 (by decide) rfl (fun (c86 : 90 ≤ (nI k)) => ?_) (fun (c86 : ¬ 90 ≤ (nI k)) => ?_)
                · skip
                  have hk2 := nI_dec2 (b := 90) c86 (by omega) (by decide)
                  have e2 : k = 90 := by omega
                  refine o_iload dX8_filmed_125 rfl (by rfl) ?_
                  refine o_if_ne (tgt := 133) dX8_filmed_127 (by decide) rfl (fun (c127 : ¬ what = 0) => ?_) (fun (c127 : what = 0) => ?_)
                  · skip
                    refine o_iload dX8_filmed_133 rfl (by rfl) ?_
                    refine o_if_ne (tgt := 141) dX8_filmed_135 (by decide) rfl (fun (c135 : ¬ ((fm (shV mu a I N) k).2) = 0) => ?_) (fun (c135 : ((fm (shV mu a I N) k).2) = 0) => ?_)
                    · skip
                      obtain ⟨c0, hc0, ec0, hfk⟩ := fm_inv (shV mu a I N) 90 (by omega)
                      rw [e2] at c135 ⊢
                      have hcn : c0 ≠ 0 := fun q => c135 (by rw [ec0, q]; rfl)
                      obtain ⟨k0, hk0, ek0⟩ := hfk hcn
                      rw [ek0]
                      refine o_iload dX8_filmed_141 rfl (by rfl) ?_
                      refine o_iconst (v := 1) dX8_filmed_143 rfl (by decide) ?_
                      refine o_icmp_ne (tgt := 155) dX8_filmed_144 (by decide) rfl (fun (c144 : ¬ what = 1) => ?_) (fun (c144 : what = 1) => ?_)
                      · skip
                        refine o_iload dX8_filmed_155 rfl (by rfl) ?_
                        refine o_callS cs_X0_vOf ct_X8_221 (c_X0_vOf _ k0 hk0) hq.2.2.2 (Nat.le_of_ble_eq_true rfl) dX8_filmed_157 rfl rfl rfl (Nat.le_of_ble_eq_true rfl) (fun rU mU hU9 => ?_)
                        obtain ⟨em, hU9⟩ := hU9
                        rw [em]
                        exact o_iret hq dX8_filmed_160 (Or.inr ⟨by simp [b5, b16, b26, b67], a, N, by omega, rfl, rfl, hN1, hN, Or.inr ⟨c50, Or.inr ⟨fun e => b67 (decide_eq_true e), hF, I, rfl, by omega, by unfold fmR; rw [if_neg c127, if_neg c135, if_neg c144, ek0, nI_clamp (by omega)]; exact hU9⟩⟩⟩)
                      · skip
                        refine o_iload dX8_filmed_147 rfl (by rfl) ?_
                        refine o_callS cs_X0_uOf ct_X8_218 (c_X0_uOf _ k0 hk0) hq.2.2.2 (Nat.le_of_ble_eq_true rfl) dX8_filmed_149 rfl rfl rfl (Nat.le_of_ble_eq_true rfl) (fun rU mU hU9 => ?_)
                        obtain ⟨em, hU9⟩ := hU9
                        rw [em]
                        refine o_goto (tgt := 160) dX8_filmed_152 (by decide) ?_
                        exact o_iret hq dX8_filmed_160 (Or.inr ⟨by simp [b5, b16, b26, b67], a, N, by omega, rfl, rfl, hN1, hN, Or.inr ⟨c50, Or.inr ⟨fun e => b67 (decide_eq_true e), hF, I, rfl, by omega, by unfold fmR; rw [if_neg c127, if_neg c135, if_pos c144, ek0, nI_clamp (by omega)]; exact hU9⟩⟩⟩)
                    · skip
                      refine o_ldc dX8_filmed_138 rfl kc_X8_217 ?_
                      exact o_iret hq dX8_filmed_140 (Or.inr ⟨by simp [b5, b16, b26, b67], a, N, by omega, rfl, rfl, hN1, hN, Or.inr ⟨c50, Or.inr ⟨fun e => b67 (decide_eq_true e), hF, I, rfl, by omega, by rw [e2] at c135; unfold fmR; rw [if_neg c127, if_pos c135]⟩⟩⟩)
                  · skip
                    refine o_iload dX8_filmed_130 rfl (by rfl) ?_
                    exact o_iret hq dX8_filmed_132 (Or.inr ⟨by simp [b5, b16, b26, b67], a, N, by omega, rfl, rfl, hN1, hN, Or.inr ⟨c50, Or.inr ⟨fun e => b67 (decide_eq_true e), hF, I, rfl, by omega, by rw [e2]; unfold fmR; rw [if_pos c127]⟩⟩⟩)
                · skip
                  have hk2 := nI_dec (b := 90) c86 (by omega) (by decide)
                  refine o_aload_n dX8_filmed_89 rfl rfl (by rfl) ?_
                  refine o_iload dX8_filmed_90 rfl (by rfl) ?_
                  refine o_iload_n dX8_filmed_92 rfl rfl (by rfl) ?_
                  refine o_iload_n dX8_filmed_93 rfl rfl (by rfl) ?_
                  refine o_iload dX8_filmed_94 rfl (by rfl) ?_
                  refine o_callV cs_X8_isShown cv_X8_266 (c_X8_isShown m (hS.cg (fun q a b => hF q (by omega) (by omega))) (fun q hq => by rw [hF 88 (by decide) (by decide)]; exact hH q hq) k a I N zz hk2 (by omega) hN hzz (by rw [hF 88 (by decide) (by decide)]; exact e88) hIN2) hq.2.2.2 (Nat.le_of_ble_eq_true rfl) dX8_filmed_96 rfl (by decide) (by rfl) (by rfl) (by rfl) rfl rfl (Nat.le_of_ble_eq_true rfl) (fun rS mS hSh => ?_)
                  have hF2 : fr2 mu mS := fun q a b => by rw [hSh.1 q a b, hF q a b]
                  have hv := shV_is hSh.2
                  rw [sh_cg (by omega) hS.t9 hF] at hv
                  refine o_if_eq (tgt := 119) dX8_filmed_99 (by decide) rfl (fun (c99 : rS = 0) => ?_) (fun (c99 : ¬ rS = 0) => ?_)
                  · skip
                    refine o_iinc (v := nI (k + 1)) (L' := [(0, vC 0), (1, vI (nI a)), (2, vI l), (3, vI (nI I)), (4, vI (nI N)), (5, vI what), (6, vI rR), (7, vI ((fm (shV mu a I N) k).1)), (8, vI ((fm (shV mu a I N) k).2)), (9, vI (nI (k + 1)))]) dX8_filmed_119 rfl (by rfl) (by exact nI_1 k) (by decide) (by rfl) (by rfl) ?_
                    refine o_goto (tgt := 82) dX8_filmed_122 (by decide) ?_
                    have es : fm (shV mu a I N) (k + 1) = fm (shV mu a I N) k := by show (if shV mu a I N k = 0 then _ else _) = _; rw [hv, if_pos c99]
                    have hI := ihLP82 (k + 1) mS (by omega) hF2 (by omega)
                    rw [es] at hI
                    exact hI
                  · skip
                    refine o_iload dX8_filmed_102 rfl (by rfl) ?_
                    refine o_if_ne (tgt := 112) dX8_filmed_104 (by decide) rfl (fun (c104 : ¬ ((fm (shV mu a I N) k).2) = 0) => ?_) (fun (c104 : ((fm (shV mu a I N) k).2) = 0) => ?_)
                    · skip
                      refine o_iload dX8_filmed_112 rfl (by rfl) ?_
                      refine o_istore (L' := [(0, vC 0), (1, vI (nI a)), (2, vI l), (3, vI (nI I)), (4, vI (nI N)), (5, vI what), (6, vI rR), (7, vI ((fm (shV mu a I N) k).1)), (8, vI ((fm (shV mu a I N) k).2)), (9, vI (nI k))]) dX8_filmed_114 rfl (by decide) (by rfl) (by rfl) ?_
                      obtain ⟨x9, ex9⟩ : ∃ y : Int32, y = ((fm (shV mu a I N) k).2) + 1 := ⟨_, rfl⟩
                      refine o_iinc (v := x9) (L' := [(0, vC 0), (1, vI (nI a)), (2, vI l), (3, vI (nI I)), (4, vI (nI N)), (5, vI what), (6, vI rR), (7, vI ((fm (shV mu a I N) k).1)), (8, vI x9), (9, vI (nI k))]) dX8_filmed_116 rfl (by rfl) (by rw [ex9]; rfl) (by decide) (by rfl) (by rfl) ?_
                      refine o_iinc (v := nI (k + 1)) (L' := [(0, vC 0), (1, vI (nI a)), (2, vI l), (3, vI (nI I)), (4, vI (nI N)), (5, vI what), (6, vI rR), (7, vI ((fm (shV mu a I N) k).1)), (8, vI x9), (9, vI (nI (k + 1)))]) dX8_filmed_119 rfl (by rfl) (by exact nI_1 k) (by decide) (by rfl) (by rfl) ?_
                      refine o_goto (tgt := 82) dX8_filmed_122 (by decide) ?_
                      have es : fm (shV mu a I N) (k + 1) = ((fm (shV mu a I N) k).1, (fm (shV mu a I N) k).2 + 1) := by show (if shV mu a I N k = 0 then _ else _) = _; rw [hv, if_neg c99, if_neg c104]
                      rw [ex9]
                      have hI := ihLP82 (k + 1) mS (by omega) hF2 (by omega)
                      rw [es] at hI
                      exact hI
                    · skip
                      refine o_iload dX8_filmed_107 rfl (by rfl) ?_
                      refine o_goto (tgt := 114) dX8_filmed_109 (by decide) ?_
                      refine o_istore (L' := [(0, vC 0), (1, vI (nI a)), (2, vI l), (3, vI (nI I)), (4, vI (nI N)), (5, vI what), (6, vI rR), (7, vI (nI k)), (8, vI ((fm (shV mu a I N) k).2)), (9, vI (nI k))]) dX8_filmed_114 rfl (by decide) (by rfl) (by rfl) ?_
                      obtain ⟨x10, ex10⟩ : ∃ y : Int32, y = ((fm (shV mu a I N) k).2) + 1 := ⟨_, rfl⟩
                      refine o_iinc (v := x10) (L' := [(0, vC 0), (1, vI (nI a)), (2, vI l), (3, vI (nI I)), (4, vI (nI N)), (5, vI what), (6, vI rR), (7, vI (nI k)), (8, vI x10), (9, vI (nI k))]) dX8_filmed_116 rfl (by rfl) (by rw [ex10]; rfl) (by decide) (by rfl) (by rfl) ?_
                      refine o_iinc (v := nI (k + 1)) (L' := [(0, vC 0), (1, vI (nI a)), (2, vI l), (3, vI (nI I)), (4, vI (nI N)), (5, vI what), (6, vI rR), (7, vI (nI k)), (8, vI x10), (9, vI (nI (k + 1)))]) dX8_filmed_119 rfl (by rfl) (by exact nI_1 k) (by decide) (by rfl) (by rfl) ?_
                      refine o_goto (tgt := 82) dX8_filmed_122 (by decide) ?_
                      have es : fm (shV mu a I N) (k + 1) = (nI k, (fm (shV mu a I N) k).2 + 1) := by show (if shV mu a I N k = 0 then _ else _) = _; rw [hv, if_neg c99, if_pos c104]
                      rw [ex10]
                      have hI := ihLP82 (k + 1) mS (by omega) hF2 (by omega)
                      rw [es] at hI
                      exact hI
            exact LP82 91 0 _ (by omega) (fun _ _ _ => rfl) (by omega)
          · skip
            have b67 := (if10 h5).2 c67
            refine o_ldc dX8_filmed_70 rfl kc_X8_213 ?_
            exact o_iret hq dX8_filmed_72 (Or.inr ⟨by simp [b5, b16, b26, b67], a, N, by omega, rfl, rfl, hN1, hN, Or.inr ⟨c50, Or.inl ⟨of_decide_eq_true b67, rfl, rfl⟩⟩⟩)
        · skip
          rw [hR] at c50
          refine o_iload dX8_filmed_53 rfl (by rfl) ?_
          refine o_ldcw dX8_filmed_55 rfl kc_X8_265 ?_
          refine o_isub dX8_filmed_58 rfl ?_
          exact o_iret hq dX8_filmed_59 (Or.inr ⟨by simp [b5, b16, b26], a, N, by omega, rfl, rfl, hN1, hN, Or.inl ⟨c50, by rw [hR], rfl⟩⟩)
      · skip
        have b26 := (if10 h3).1 c26
        refine o_ldc dX8_filmed_29 rfl kc_X8_92 ?_
        exact o_iret hq dX8_filmed_31 (Or.inl ⟨by simp [b5, b16, b26], rfl, rfl⟩)
