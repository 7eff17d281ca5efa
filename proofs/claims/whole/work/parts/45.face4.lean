/-! ===== film, filmed, down, mended ===== -/
/-- as TS, but of the cells a try reads alone -/
def TSw (mu0 : Mu) (fu fv : Int32) (nc n : Nat) (m : Mu) : Prop := (∀ q, q ≤ 26 → m q = mu0 q) ∧ (∀ j, 1 < j → j < 6 → m 53 j = mu0 53 j) ∧ Traj (rdE mu0) (cupC mu0) nc (hU mu0 fu fv) (hV mu0 fu fv) n (rdT m) ∧ (m 53 14 = -1 → ∀ j, 0 < j → j < 5 → m 54 j = hst mu0 fu fv n j)
theorem TS.w {mu0 m : Mu} {fu fv : Int32} {nc n : Nat} (h : TS mu0 fu fv nc n m) : TSw mu0 fu fv nc n m := ⟨fun q hq => h.1 q (by omega) (by omega), h.2⟩
theorem base_eq {a b : Mu} {fu fv : Int32} {nc : Nat} (hO : TOK a 9 6 3) (hz : nc ≤ 4) (h1 : ∀ q, q ≤ 26 → b q = a q) (h2 : ∀ j, 1 < j → j < 6 → b 53 j = a 53 j) : rdE b = rdE a ∧ (∀ i, i < nc → cupC b i = cupC a i) ∧ hst b fu fv = hst a fu fv ∧ hU b fu fv = hU a fu fv ∧ hV b fu fv = hV a fu fv := by
  refine ⟨?_, ?_, hst_cg hO (fun q a b => h1 q (by omega))⟩
  · funext j
    unfold rdE
    rw [h2 2 (by decide) (by decide), h2 3 (by decide) (by decide), h2 4 (by decide) (by decide), h2 5 (by decide) (by decide), h1 2 (by decide)]
  · intro i hi
    funext j
    show b (5 + i) j = a (5 + i) j
    rw [h1 (5 + i) (by omega)]
theorem c_goOn2 (mu0 : Mu) (fu fv : Int32) (nc : Nat) (hC : COK mu0 fu fv nc) (mu : Mu) (n k : Nat) (hn : n ≤ k) (hk : k ≤ 100) (hT : TSw mu0 fu fv nc n mu) : ConV yX7_goOn cX7_goOn 3 4 [vC 53, vI (nI k)] mu (fun m2 => TSw mu0 fu fv nc k m2 ∧ fr2 mu m2) := by
  obtain ⟨a1, a2, a3, a4⟩ := hT
  obtain ⟨c1, c2, c3, c4, c5, c6⟩ := id hC
  obtain ⟨eE, eC, eh, eU, eV⟩ := base_eq (fu := fu) (fv := fv) (nc := nc) (b := mu) c4 c2 a1 a2
  have t3 : mu 3 = mu0 3 := a1 3 (by decide)
  have hCm : COK mu fu fv nc := ⟨TOK.cg t3 c1, c2, by rw [t3]; exact c3, TOK.cg (a1 9 (by decide)) c4, by rw [a2 4 (by decide) (by decide)]; exact c5, by rw [eE, eU, eV]; exact c6⟩
  have hTm : TS mu fu fv nc n mu := ⟨fun _ _ _ => rfl, fun _ _ _ => rfl, by rw [eE, eU, eV]; exact traj_C (E := rdE mu0) (fun i hi => (eC i hi).symm) c5 c2 n _ a3, by rw [eh]; exact a4⟩
  refine conV_wk (c_X7_goOn mu fu fv nc hCm mu n k hn hk hTm) (fun m2 h => ?_)
  obtain ⟨b1, b2, b3, b4⟩ := h
  rw [eE, eU, eV] at b3
  rw [eh] at b4
  exact ⟨⟨fun q hq => by rw [b1 q (by omega) (by omega), a1 q hq], fun j h1 h2 => by rw [b2 j h1 h2, a2 j h1 h2], traj_C (E := rdE mu0) eC c5 c2 k _ b3, b4⟩, b1⟩
theorem TSw.tv {mu m0 m : Mu} {cord u v meet lc lf : Int32} {nc n : Nat} (hB : Beg mu cord u v meet lc lf m0) (hS : SOK mu 1) (ez : mu 3 2 = nI nc) (hz : nc ≤ 4) (hlc : lc = -1 ∨ ∃ i, i < nc ∧ lc = nI i) (h : TSw m0 u v nc n m) : ∀ j, j < 15 → rdT m j = tv mu cord u v meet lc lf n j := by
  obtain ⟨h1, h2, h3, h4, h5, h6, h7⟩ := hB
  obtain ⟨a1, a2, a3, a4⟩ := h
  have e2 : m0 2 = mu 2 := h1 2 (by decide) (by decide)
  have eE : rdE m0 = mkE mu cord meet lc lf := by
    funext j
    unfold rdE mkE
    rw [h3, h4, h5, h6, e2]
  obtain ⟨-, eU, eV⟩ := hst_cg (m := m0) (mu := mu) (fu := u) (fv := v) hS.t9 (fun q a b => h1 q (by omega) (by omega))
  rw [eE, eU, eV] at a3
  have a5 := traj_C (D := cupD mu) (fun i hi => by
    funext j
    show m0 (5 + i) j = if i < 4 then mu (5 + i) j else 0
    rw [if_pos (by omega), h1 (5 + i) (by omega) (by omega)]) hlc hz n _ a3
  intro j hj
  have hT : TrM mu cord u v meet lc lf n (rdT m) := by
    unfold TrM
    rw [ez, nI_clamp (by omega)]
    exact a5
  exact (hT.tv ez hz hlc hj).symm
/-- a filmed row: p places from item I on -/
def FLM (mu m : Mu) (a I p : Nat) : Prop := (∀ q, q ≠ 53 → q ≠ 54 → q ≠ 90 + a → m q = mu q) ∧ (∀ i, i < p → m (90 + a) (I + 2 * i) = cutV (mu 87 a) (tvT mu (i + 1) 0) ∧ m (90 + a) (I + 2 * i + 1) = cutV (mu 87 a) (tvT mu (i + 1) 1)) ∧ ∀ j, (j < I ∨ I + 2 * p ≤ j) → m (90 + a) j = mu (90 + a) j
theorem FLM.step {mu m m1 m2 m3 : Mu} {a I p N z : Nat} {x y : Int32} (h : FLM mu m a I p) (ha : a < 4) (hp : p < N) (hN : N ≤ 12) (hz : z ≤ 24) (hI : I + 2 * N ≤ z) (ez : mu 88 a = nI z) (hF : fr2 m m1) (ex : x = tvT mu (p + 1) 0) (ey : y = tvT mu (p + 1) 1)
    (h2 : m2 = if fitB (m1 88 a) (nI I + 2 * nI p) 1 = true then upF m1 (90 + a) (nI I + 2 * nI p).toNatClampNeg (cutV (m1 87 a) x) else m1)
    (h3 : m3 = if fitB (m2 88 a) (nI I + 2 * nI p + 1) 1 = true then upF m2 (90 + a) (nI I + 2 * nI p + 1).toNatClampNeg (cutV (m2 87 a) y) else m2) : FLM mu m3 a I (p + 1) ∧ ∀ q, q ≠ 90 + a → m3 q = m1 q := by
  obtain ⟨f1, f2, f3⟩ := h
  have e1 : nI I + 2 * nI p = nI (I + 2 * p) := by rw [show (2 : Int32) = nI 2 from rfl, pk_mul, nI_add]
  have e2 : nI I + 2 * nI p + 1 = nI (I + 2 * p + 1) := by rw [e1, nI_1]
  have s88 : m1 88 a = nI z := by rw [hF 88 (by decide) (by decide), f1 88 (by decide) (by decide) (by omega), ez]
  have s87 : m1 87 a = mu 87 a := by rw [hF 87 (by decide) (by decide), f1 87 (by decide) (by decide) (by omega)]
  have fit : ∀ J : Nat, J + 1 ≤ z → fitB (nI z) (nI J) 1 = true := fun J hJ => by
    apply decide_eq_true
    refine ⟨nI_pos (by omega), by decide, nI_nlt (by omega) (by omega), ?_⟩
    rw [pk_sub (by omega)]
    exact nI_nlt (b := 1) (by omega) (by omega)
  rw [e1, s88, if_pos (fit _ (by omega)), nI_clamp (by omega), s87] at h2
  have t88 : m2 88 = m1 88 := by rw [h2, upF_k (by omega)]
  have t87 : m2 87 = m1 87 := by rw [h2, upF_k (by omega)]
  rw [e2, t88, s88, if_pos (fit _ (by omega)), nI_clamp (by omega), t87, s87] at h3
  have hq : ∀ q, q ≠ 90 + a → m3 q = m1 q := fun q hq => by rw [h3, upF_k hq, h2, upF_k hq]
  have hr : ∀ j, j ≠ I + 2 * p → j ≠ I + 2 * p + 1 → m3 (90 + a) j = m (90 + a) j := fun j j1 j2 => by rw [h3, upF_i j2, h2, upF_i j1, hF (90 + a) (by omega) (by omega)]
  refine ⟨⟨fun q q1 q2 q3 => by rw [hq q q3, hF q q1 q2, f1 q q1 q2 q3], fun i hi => ?_, fun j hj => by rw [hr j (by omega) (by omega)]; exact f3 j (by omega)⟩, hq⟩
  by_cases ei : i = p
  · subst ei
    exact ⟨by rw [h3, upF_i (by omega), h2, upF_s, ex], by rw [h3, upF_s, ey]⟩
  · rw [hr _ (by omega) (by omega), hr _ (by omega) (by omega)]
    exact f2 i (by omega)
theorem two_IN {N N2 I z : Nat} (e : 2 * nI N = nI N2) (hN : N ≤ 12) (h : I + N2 ≤ z) (hz : z ≤ 24) : I + 2 * N ≤ z := by
  have e2 : nI (2 * N) = nI N2 := by
    rw [← e, ← pk_mul]
    rfl
  have := (nI_eq (by omega) (by omega)).mp e2
  omega
set_option maxHeartbeats 4000000 in
set_option maxRecDepth 100000 in
theorem c_X8_film (mu : Mu) (hS : SOK mu 1) (hH : HOK mu) (sh0 l i n : Int32) : Con yX8_film cX8_film 7 (some .int) 5 [vC 0, vI sh0, vI l, vI i, vI n] mu (fun r mu2 => ((inB sh0 0 3 && inB l 0 2 && inB n 1 12) = false ∧ r = -1 ∧ mu2 = mu) ∨ ((inB sh0 0 3 && inB l 0 2 && inB n 1 12) = true ∧ ∃ a N, a < 4 ∧ sh0 = nI a ∧ n = nI N ∧ 1 ≤ N ∧ N ≤ 12 ∧ ((¬ refV mu a l i (2 * n) = 0 ∧ r = refV mu a l i (2 * n) ∧ mu2 = mu) ∨ (refV mu a l i (2 * n) = 0 ∧ r = 2 * n ∧ ∃ I, i = nI I ∧ I + 2 * N ≤ 24 ∧ FLM mu mu2 a I N)))) := by
  refine con_of (own := RX8) (by decide) rfl (Nat.le_of_ble_eq_true rfl) (fun X g hq => ?_)
  show WA X g RX8 7 cX8_film 0 [(0, vC 0), (1, vI sh0), (2, vI l), (3, vI i), (4, vI n)] [] mu
  obtain ⟨nc, hz, ez⟩ := hS.nc
  refine o_iload_n dX8_film_0 rfl rfl (by rfl) ?_
  refine o_iload_n dX8_film_1 rfl rfl (by rfl) ?_
  refine o_callS cs_X8_isRow ct_X8_258 (c_X8_isRow _ sh0 l) hq.2.2.2 (Nat.le_of_ble_eq_true rfl) dX8_film_2 rfl rfl rfl (Nat.le_of_ble_eq_true rfl) (fun r1 mu1 h1 => ?_)
  obtain ⟨em, h1⟩ := h1
  rw [em]
  refine o_if_eq (tgt := 19) dX8_film_5 (by decide) rfl (fun (c5 : r1 = 0) => ?_) (fun (c5 : ¬ r1 = 0) => ?_)
  · skip
    have b5 := (if10 h1).1 c5
    refine o_iconst (v := (-1)) dX8_film_19 rfl (by decide) ?_
    exact o_iret hq dX8_film_20 (Or.inl ⟨by simp [b5], rfl, rfl⟩)
  · skip
    have b5 := (if10 h1).2 c5
    refine o_iload dX8_film_8 rfl (by rfl) ?_
    refine o_iconst (v := 1) dX8_film_10 rfl (by decide) ?_
    refine o_bipush (v := 12) dX8_film_11 rfl (by decide) ?_
    refine o_callS cs_X8_isIn ct_X8_60 (c_isIn _ n 1 12) hq.2.2.2 (Nat.le_of_ble_eq_true rfl) dX8_film_13 rfl rfl rfl (Nat.le_of_ble_eq_true rfl) (fun r2 mu2 h2 => ?_)
    obtain ⟨em, h2⟩ := h2
    rw [em]
    refine o_if_ne (tgt := 21) dX8_film_16 (by decide) rfl (fun (c16 : ¬ r2 = 0) => ?_) (fun (c16 : r2 = 0) => ?_)
    · skip
      have b16 := (if10 h2).2 c16
      obtain ⟨a, ea, -, ha⟩ := inB_nI (l := 0) (m := 3) (by decide) (by decide) (by have h := b5; simp only [Bool.and_eq_true] at h; exact h.1)
      subst ea
      obtain ⟨N, eN, hN1, hN⟩ := inB_nI (l := 1) (m := 12) (by decide) (by decide) b16
      subst eN
      refine o_aload_n dX8_film_21 rfl rfl (by rfl) ?_
      refine o_getC (q := 86) cl_X8_56 dX8_film_22 rfl (by decide) (by rfl) (by rfl) ?_
      refine o_iload_n dX8_film_25 rfl rfl (by rfl) ?_
      refine o_iload_n dX8_film_26 rfl rfl (by rfl) ?_
      refine o_iload_n dX8_film_27 rfl rfl (by rfl) ?_
      refine o_iconst (v := 2) dX8_film_28 rfl (by decide) ?_
      refine o_iload dX8_film_29 rfl (by rfl) ?_
      refine o_imul dX8_film_31 rfl ?_
      refine o_callV cs_X5_refusalOf cv_X8_262 (c_X5_refusalOf _ a (by omega) l i (2 * (nI N))) hq.2.2.2 (Nat.le_of_ble_eq_true rfl) dX8_film_32 rfl (by decide) (by rfl) (by rfl) (by rfl) rfl rfl (Nat.le_of_ble_eq_true rfl) (fun rR mR hR => ?_)
      obtain ⟨em, hR⟩ := hR
      rw [em]
      refine o_istore (L' := [(0, vC 0), (1, vI (nI a)), (2, vI l), (3, vI i), (4, vI (nI N)), (5, vI rR)]) dX8_film_35 rfl (by decide) (by rfl) (by rfl) ?_
      refine o_iload dX8_film_37 rfl (by rfl) ?_
      refine o_if_eq (tgt := 45) dX8_film_39 (by decide) rfl (fun (c39 : rR = 0) => ?_) (fun (c39 : ¬ rR = 0) => ?_)
      · skip
        rw [hR] at c39
        obtain ⟨n87, n88, hfit⟩ := ref_fit c39
        obtain ⟨zz, I, N2, e88, hzz, eI, eN2, hIN⟩ := fit_nI hH (by omega) hfit
        subst eI
        have hIN2 := two_IN eN2 hN hIN hzz
        refine o_aload_n dX8_film_45 rfl rfl (by rfl) ?_
        refine o_getC (q := 53) cl_X8_28 dX8_film_46 rfl (by decide) (by rfl) (by rfl) ?_
        refine o_callVV cs_X7_beginAsTold cv_X8_135 (c_X7_beginAsTold _ hS) hq.2.2.2 (Nat.le_of_ble_eq_true rfl) dX8_film_49 rfl (by decide) (by rfl) (by rfl) (by rfl) rfl rfl (Nat.le_of_ble_eq_true rfl) (fun m0 hB => ?_)
        have hOK := hB.ok hS hS.1.1 (toldU hS).1 (toldU hS).2 ez hz (Or.inl rfl)
        refine o_iconst (v := 0) dX8_film_52 rfl (by decide) ?_
        refine o_istore (L' := [(0, vC 0), (1, vI (nI a)), (2, vI l), (3, vI (nI I)), (4, vI (nI N)), (5, vI rR), (6, vI 0)]) dX8_film_53 rfl (by decide) (by rfl) (by rfl) ?_
        have LP55 : ∀ (nLP55 : Nat) (p : Nat) (m : Mu) , (p ≤ N) → (TSw m0 (tget mu 9 0 1) (tget mu 9 0 2) nc p m) → (FLM mu m a I p) → (N < p + nLP55) → WA X g RX8 7 cX8_film 55 [(0, vC 0), (1, vI (nI a)), (2, vI l), (3, vI (nI I)), (4, vI (nI N)), (5, vI rR), (6, vI (nI p))] [] m := by
          intro nLP55
          induction nLP55 with
          | zero =>
            intro p m hp hT hL hm
            exact absurd hm (by omega)
          | succ nLP55 ihLP55 =>
            intro p m hp hT hL hm
            refine o_iload dX8_film_55 rfl (by rfl) ?_
            refine o_iload dX8_film_57 rfl (by rfl) ?_
            refine o_icmp_ge (tgt := 123) dX8_film_59 (by decide) rfl (fun (c59 : (nI N) ≤ (nI p)) => ?_) (fun (c59 : ¬ (nI N) ≤ (nI p)) => ?_)
            · skip
              have hpn := nI_dec2 c59 (by omega) (by omega)
              have ep : p = N := by omega
              refine o_iconst (v := 2) dX8_film_123 rfl (by decide) ?_
              refine o_iload dX8_film_124 rfl (by rfl) ?_
              refine o_imul dX8_film_126 rfl ?_
              exact o_iret hq dX8_film_127 (Or.inr ⟨by simp [b5, b16], a, N, by omega, rfl, rfl, hN1, hN, Or.inr ⟨c39, rfl, I, rfl, by omega, by rw [← ep]; exact hL⟩⟩)
            · skip
              have hpn := nI_dec c59 (by omega) (by omega)
              refine o_aload_n dX8_film_62 rfl rfl (by rfl) ?_
              refine o_getC (q := 53) cl_X8_28 dX8_film_63 rfl (by decide) (by rfl) (by rfl) ?_
              refine o_iload dX8_film_66 rfl (by rfl) ?_
              refine o_iconst (v := 1) dX8_film_68 rfl (by decide) ?_
              refine o_iadd dX8_film_69 rfl ?_
              rw [nI_1]
              refine o_callVV cs_X7_goOn cv_X8_138 (c_goOn2 _ _ _ nc hOK.1 m p (p + 1) (by omega) (by omega) hT) hq.2.2.2 (Nat.le_of_ble_eq_true rfl) dX8_film_70 rfl (by decide) (by rfl) (by rfl) (by rfl) rfl rfl (Nat.le_of_ble_eq_true rfl) (fun mG hG => ?_)
              have hx := TSw.tv hB hS ez hz (Or.inl rfl) hG.1
              have h88 : mG 88 = mu 88 := by rw [hG.2 88 (by decide) (by decide), hL.1 88 (by decide) (by decide) (by omega)]
              have hH1 : HOK mG := fun q hq => by rw [h88]; exact hH q hq
              refine o_aload_n dX8_film_73 rfl rfl (by rfl) ?_
              refine o_getC (q := 86) cl_X8_56 dX8_film_74 rfl (by decide) (by rfl) (by rfl) ?_
              refine o_iload_n dX8_film_77 rfl rfl (by rfl) ?_
              refine o_iload_n dX8_film_78 rfl rfl (by rfl) ?_
              refine o_iconst (v := 2) dX8_film_79 rfl (by decide) ?_
              refine o_iload dX8_film_80 rfl (by rfl) ?_
              refine o_imul dX8_film_82 rfl ?_
              refine o_iadd dX8_film_83 rfl ?_
              refine o_aload_n dX8_film_84 rfl rfl (by rfl) ?_
              refine o_getC (q := 53) cl_X8_28 dX8_film_85 rfl (by decide) (by rfl) (by rfl) ?_
              refine o_getI cl_X8_141 dX8_film_88 rfl (by decide) (by rfl) (by rfl) ?_
              refine o_callVV cs_X5_put cv_X8_272 (c_X5_put _ hH1 a (by omega) ((nI I) + (2 * (nI p))) (mG 53 6)) hq.2.2.2 (Nat.le_of_ble_eq_true rfl) dX8_film_91 rfl (by decide) (by rfl) (by rfl) (by rfl) rfl rfl (Nat.le_of_ble_eq_true rfl) (fun mP hP => ?_)
              have hH2 : HOK mP := fun q hq => by rw [show mP 88 = mu 88 by rw [hP]; split; rw [upF_k (by omega)]; exact h88; exact h88]; exact hH q hq
              refine o_aload_n dX8_film_94 rfl rfl (by rfl) ?_
              refine o_getC (q := 86) cl_X8_56 dX8_film_95 rfl (by decide) (by rfl) (by rfl) ?_
              refine o_iload_n dX8_film_98 rfl rfl (by rfl) ?_
              refine o_iload_n dX8_film_99 rfl rfl (by rfl) ?_
              refine o_iconst (v := 2) dX8_film_100 rfl (by decide) ?_
              refine o_iload dX8_film_101 rfl (by rfl) ?_
              refine o_imul dX8_film_103 rfl ?_
              refine o_iadd dX8_film_104 rfl ?_
              refine o_iconst (v := 1) dX8_film_105 rfl (by decide) ?_
              refine o_iadd dX8_film_106 rfl ?_
              refine o_aload_n dX8_film_107 rfl rfl (by rfl) ?_
              refine o_getC (q := 53) cl_X8_28 dX8_film_108 rfl (by decide) (by rfl) (by rfl) ?_
              refine o_getI cl_X8_144 dX8_film_111 rfl (by decide) (by rfl) (by rfl) ?_
              refine o_callVV cs_X5_put cv_X8_272 (c_X5_put _ hH2 a (by omega) (((nI I) + (2 * (nI p))) + 1) (mP 53 7)) hq.2.2.2 (Nat.le_of_ble_eq_true rfl) dX8_film_114 rfl (by decide) (by rfl) (by rfl) (by rfl) rfl rfl (Nat.le_of_ble_eq_true rfl) (fun mQ hQ => ?_)
              refine o_iinc (v := nI (p + 1)) (L' := [(0, vC 0), (1, vI (nI a)), (2, vI l), (3, vI (nI I)), (4, vI (nI N)), (5, vI rR), (6, vI (nI (p + 1)))]) dX8_film_117 rfl (by rfl) (by exact nI_1 p) (by decide) (by rfl) (by rfl) ?_
              refine o_goto (tgt := 55) dX8_film_120 (by decide) ?_
              have e53 : mP 53 = mG 53 := by rw [hP]; split; rw [upF_k (by omega)]; rfl
              have hS3 := hL.step (by omega) hpn hN hzz hIN2 e88 hG.2 (hx 0 (by decide)) (show mP 53 7 = _ from (by rw [e53]; exact hx 1 (by decide))) hP hQ
              exact ihLP55 (p + 1) _ (by omega) ⟨fun q hq => by rw [hS3.2 q (by omega)]; exact hG.1.1 q hq, fun j j1 j2 => by rw [hS3.2 53 (by omega)]; exact hG.1.2.1 j j1 j2, by rw [show rdT mQ = rdT mG by funext j; unfold rdT; rw [hS3.2 53 (by omega), hS3.2 54 (by omega)]]; exact hG.1.2.2.1, by rw [hS3.2 53 (by omega), hS3.2 54 (by omega)]; exact hG.1.2.2.2⟩ hS3.1 (by omega)
        exact LP55 (N + 1) 0 _ (by omega) hOK.2.w ⟨fun q a b _ => hB.1 q a b, fun i h => by omega, fun j _ => by rw [hB.1 (90 + a) (by omega) (by omega)]⟩ (by omega)
      · skip
        rw [hR] at c39
        refine o_iload dX8_film_42 rfl (by rfl) ?_
        exact o_iret hq dX8_film_44 (Or.inr ⟨by simp [b5, b16], a, N, by omega, rfl, rfl, hN1, hN, Or.inl ⟨c39, hR, rfl⟩⟩)
    · skip
      have b16 := (if10 h2).1 c16
      refine o_iconst (v := (-1)) dX8_film_19 rfl (by decide) ?_
      exact o_iret hq dX8_film_20 (Or.inl ⟨by simp [b5, b16], rfl, rfl⟩)
noncomputable def dnT (mu : Mu) (n j : Nat) : Int32 := tv mu (mu 2 0) (tget mu 9 0 1) (tget mu 9 0 2) 0 (-1) 0 n j
def dnP (mu : Mu) (k : Nat) (pace : Int32) (i : Nat) : Prop := k ≤ i ∧ ¬ pace < ab (dnT mu (i + 1) 2 - dnT mu (i + 1) 13) ∧ ¬ pace < ab (dnT mu (i + 1) 3 - dnT mu (i + 1) 14)
theorem nI_nem1 {i : Nat} (h : i < 2 ^ 31) : ¬ nI i = -1 := fun e => by
  have := (i_eq _ _).mp e
  rw [nI_toInt h] at this
  have e1 : (-1 : Int32).toInt = -1 := rfl
  omega
set_option maxHeartbeats 4000000 in
set_option maxRecDepth 100000 in
theorem c_X8_down (mu : Mu) (hS : SOK mu 1) (stp pace : Int32) : Con yX8_down cX8_down 4 (some .int) 5 [vC 0, vI stp, vI pace] mu (fun r mu2 => ((inB stp 0 99 && inB pace 0 99) = false ∧ r = -1 ∧ mu2 = mu) ∨ ((inB stp 0 99 && inB pace 0 99) = true ∧ fr2 mu mu2 ∧ ∃ k, stp = nI k ∧ k ≤ 99 ∧ r = if fstc (dnP mu k pace) 100 = -1 then -4 else fstc (dnP mu k pace) 100)) := by
  refine con_of (own := RX8) (by decide) rfl (Nat.le_of_ble_eq_true rfl) (fun X g hq => ?_)
  show WA X g RX8 4 cX8_down 0 [(0, vC 0), (1, vI stp), (2, vI pace)] [] mu
  obtain ⟨nc, hz, ez⟩ := hS.nc
  refine o_iload_n dX8_down_0 rfl rfl (by rfl) ?_
  refine o_iconst (v := 0) dX8_down_1 rfl (by decide) ?_
  refine o_bipush (v := 99) dX8_down_2 rfl (by decide) ?_
  refine o_callS cs_X8_isIn ct_X8_60 (c_isIn _ stp 0 99) hq.2.2.2 (Nat.le_of_ble_eq_true rfl) dX8_down_4 rfl rfl rfl (Nat.le_of_ble_eq_true rfl) (fun r1 mu1 h1 => ?_)
  obtain ⟨em, h1⟩ := h1
  rw [em]
  refine o_if_eq (tgt := 20) dX8_down_7 (by decide) rfl (fun (c7 : r1 = 0) => ?_) (fun (c7 : ¬ r1 = 0) => ?_)
  · skip
    have b7 := (if10 h1).1 c7
    refine o_iconst (v := (-1)) dX8_down_20 rfl (by decide) ?_
    exact o_iret hq dX8_down_21 (Or.inl ⟨by simp [b7], rfl, rfl⟩)
  · skip
    have b7 := (if10 h1).2 c7
    refine o_iload_n dX8_down_10 rfl rfl (by rfl) ?_
    refine o_iconst (v := 0) dX8_down_11 rfl (by decide) ?_
    refine o_bipush (v := 99) dX8_down_12 rfl (by decide) ?_
    refine o_callS cs_X8_isIn ct_X8_60 (c_isIn _ pace 0 99) hq.2.2.2 (Nat.le_of_ble_eq_true rfl) dX8_down_14 rfl rfl rfl (Nat.le_of_ble_eq_true rfl) (fun r2 mu2 h2 => ?_)
    obtain ⟨em, h2⟩ := h2
    rw [em]
    refine o_if_ne (tgt := 22) dX8_down_17 (by decide) rfl (fun (c17 : ¬ r2 = 0) => ?_) (fun (c17 : r2 = 0) => ?_)
    · skip
      have b17 := (if10 h2).2 c17
      obtain ⟨k, ek, -, hk⟩ := inB_nI (l := 0) (m := 99) (by decide) (by decide) b7
      subst ek
      refine o_aload_n dX8_down_22 rfl rfl (by rfl) ?_
      refine o_getC (q := 53) cl_X8_28 dX8_down_23 rfl (by decide) (by rfl) (by rfl) ?_
      refine o_callVV cs_X7_beginAsTold cv_X8_135 (c_X7_beginAsTold _ hS) hq.2.2.2 (Nat.le_of_ble_eq_true rfl) dX8_down_26 rfl (by decide) (by rfl) (by rfl) (by rfl) rfl rfl (Nat.le_of_ble_eq_true rfl) (fun m0 hB0 => ?_)
      refine o_aload_n dX8_down_29 rfl rfl (by rfl) ?_
      refine o_getC (q := 53) cl_X8_28 dX8_down_30 rfl (by decide) (by rfl) (by rfl) ?_
      refine o_callVV cs_X7_meetNothing cv_X8_252 (c_X7_meetNothing _) hq.2.2.2 (Nat.le_of_ble_eq_true rfl) dX8_down_33 rfl (by decide) (by rfl) (by rfl) (by rfl) rfl rfl (Nat.le_of_ble_eq_true rfl) (fun m1 hm1 => ?_)
      have hB : Beg mu (mu 2 0) (tget mu 9 0 1) (tget mu 9 0 2) 0 (-1) 0 m1 := by subst hm1; exact ⟨fun q a b => by rw [upF_k a]; exact hB0.1 q a b, hB0.2.1, hB0.2.2.1, rfl, hB0.2.2.2.2.1, hB0.2.2.2.2.2.1, hB0.2.2.2.2.2.2⟩
      have hOK := hB.ok hS hS.1.1 (toldU hS).1 (toldU hS).2 ez hz (Or.inl rfl)
      refine o_iconst (v := 0) dX8_down_36 rfl (by decide) ?_
      refine o_istore_n (L' := [(0, vC 0), (1, vI (nI k)), (2, vI pace), (3, vI 0)]) dX8_down_37 rfl rfl (by decide) (by rfl) (by rfl) ?_
      have LP38 : ∀ (nLP38 : Nat) (i : Nat) (m : Mu) , (i ≤ 100) → (TS m1 (tget mu 9 0 1) (tget mu 9 0 2) nc i m) → (∀ j, j < i → ¬ dnP mu k pace j) → (100 < i + nLP38) → WA X g RX8 4 cX8_down 38 [(0, vC 0), (1, vI (nI k)), (2, vI pace), (3, vI (nI i))] [] m := by
        intro nLP38
        induction nLP38 with
        | zero =>
          intro i m hi hT hno hm
          exact absurd hm (by omega)
        | succ nLP38 ihLP38 =>
          intro i m hi hT hno hm
          refine o_iload_n dX8_down_38 rfl rfl (by rfl) ?_
          refine o_bipush (v := 100) dX8_down_39 rfl (by decide) ?_
          refine o_icmp_ge (tgt := 78) dX8_down_41 (by decide) rfl (fun (c41 : 100 ≤ (nI i)) => ?_) (fun (c41 : ¬ 100 ≤ (nI i)) => ?_)
          · skip
            have hk2 := nI_dec2 (b := 100) c41 (by omega) (by decide)
            have e2 : i = 100 := by omega
            refine o_bipush (v := (-4)) dX8_down_78 rfl (by decide) ?_
            exact o_iret hq dX8_down_80 (Or.inr ⟨by simp [b7, b17], (hT.tv hB hS ez hz (Or.inl rfl)).1, k, rfl, by omega, by have hf : fstc (dnP mu k pace) 100 = -1 := fstc_is (Or.inr ⟨rfl, fun j h => hno j (by omega)⟩); rw [hf, if_pos rfl]⟩)
          · skip
            have hk2 := nI_dec (b := 100) c41 (by omega) (by decide)
            refine o_aload_n dX8_down_44 rfl rfl (by rfl) ?_
            refine o_getC (q := 53) cl_X8_28 dX8_down_45 rfl (by decide) (by rfl) (by rfl) ?_
            refine o_iload_n dX8_down_48 rfl rfl (by rfl) ?_
            refine o_iconst (v := 1) dX8_down_49 rfl (by decide) ?_
            refine o_iadd dX8_down_50 rfl ?_
            rw [nI_1]
            refine o_callVV cs_X7_goOn cv_X8_138 (c_X7_goOn _ _ _ nc hOK.1 m i (i + 1) (by omega) (by omega) hT) hq.2.2.2 (Nat.le_of_ble_eq_true rfl) dX8_down_51 rfl (by decide) (by rfl) (by rfl) (by rfl) rfl rfl (Nat.le_of_ble_eq_true rfl) (fun mG hG => ?_)
            have hF := hG.tv hB hS ez hz (Or.inl rfl)
            refine o_iload_n dX8_down_54 rfl rfl (by rfl) ?_
            refine o_iload_n dX8_down_55 rfl rfl (by rfl) ?_
            refine o_icmp_lt (tgt := 72) dX8_down_56 (by decide) rfl (fun (c56 : (nI i) < (nI k)) => ?_) (fun (c56 : ¬ (nI i) < (nI k)) => ?_)
            · skip
              refine o_iinc (v := nI (i + 1)) (L' := [(0, vC 0), (1, vI (nI k)), (2, vI pace), (3, vI (nI (i + 1)))]) dX8_down_72 rfl (by rfl) (by exact nI_1 i) (by decide) (by rfl) (by rfl) ?_
              refine o_goto (tgt := 38) dX8_down_75 (by decide) ?_
              exact ihLP38 (i + 1) _ (by omega) hG (lt_s hno (fun h => absurd h.1 (Nat.not_le.mpr ((nI_ltI (by omega) (by omega)).mp c56)))) (by omega)
            · skip
              refine o_aload_n dX8_down_59 rfl rfl (by rfl) ?_
              refine o_getC (q := 53) cl_X8_28 dX8_down_60 rfl (by decide) (by rfl) (by rfl) ?_
              refine o_iload_n dX8_down_63 rfl rfl (by rfl) ?_
              refine o_callV cs_X7_isSoft cv_X8_255 (c_X7_isSoft _ pace) hq.2.2.2 (Nat.le_of_ble_eq_true rfl) dX8_down_64 rfl (by decide) (by rfl) (by rfl) (by rfl) rfl rfl (Nat.le_of_ble_eq_true rfl) (fun r6 mu6 h6 => ?_)
              obtain ⟨em, h6⟩ := h6
              rw [em]
              refine o_if_eq (tgt := 72) dX8_down_67 (by decide) rfl (fun (c67 : r6 = 0) => ?_) (fun (c67 : ¬ r6 = 0) => ?_)
              · skip
                have b67 := (if10 h6).1 c67
                refine o_iinc (v := nI (i + 1)) (L' := [(0, vC 0), (1, vI (nI k)), (2, vI pace), (3, vI (nI (i + 1)))]) dX8_down_72 rfl (by rfl) (by exact nI_1 i) (by decide) (by rfl) (by rfl) ?_
                refine o_goto (tgt := 38) dX8_down_75 (by decide) ?_
                exact ihLP38 (i + 1) _ (by omega) hG (lt_s hno (fun h => b67 (by have h2 := h.2; unfold dnT at h2; rw [← hF.2 2 (by decide), ← hF.2 13 (by decide), ← hF.2 3 (by decide), ← hF.2 14 (by decide)] at h2; exact h2))) (by omega)
              · skip
                have b67 := (if10 h6).2 c67
                refine o_iload_n dX8_down_70 rfl rfl (by rfl) ?_
                exact o_iret hq dX8_down_71 (Or.inr ⟨by simp [b7, b17], hF.1, k, rfl, by omega, by have hf : fstc (dnP mu k pace) 100 = nI i := fstc_is (Or.inl ⟨i, hk2, rfl, ⟨Nat.le_of_not_lt (fun q => c56 (nI_lt q (by omega))), by unfold dnT; rw [← hF.2 2 (by decide), ← hF.2 13 (by decide), ← hF.2 3 (by decide), ← hF.2 14 (by decide)]; exact b67⟩, hno⟩); rw [hf, if_neg (nI_nem1 (by omega))]⟩)
      exact LP38 101 0 _ (by omega) hOK.2 (fun j h => by omega) (by omega)
    · skip
      have b17 := (if10 h2).1 c17
      refine o_iconst (v := (-1)) dX8_down_20 rfl (by decide) ?_
      exact o_iret hq dX8_down_21 (Or.inl ⟨by simp [b7, b17], rfl, rfl⟩)
noncomputable def lG (mu : Mu) (c : Nat) (lf : Int32) (k : Nat) : Int32 := tv mu (mu 2 0) (gU k) (gV k) 1 (nI c) lf 100 9
noncomputable def mdS (mu : Mu) (c : Nat) (lf : Int32) : Nat → Int32
  | 0 => 0
  | k + 1 => mdS mu c lf k + (if ¬ eG mu (mu 2 0) k = nI c ∧ lG mu c lf k = nI c then 1 else 0)
set_option maxHeartbeats 4000000 in
set_option maxRecDepth 100000 in
theorem c_X8_mended (mu : Mu) (hS : SOK mu 1) (cup lf : Int32) : Con yX8_mended cX8_mended 8 (some .int) 6 [vC 0, vI cup, vI lf] mu (fun r mu2 => ((hasB mu 3 cup && inB lf 0 99) = false ∧ r = -1 ∧ mu2 = mu) ∨ ((hasB mu 3 cup && inB lf 0 99) = true ∧ mu 9 2 = 0 ∧ r = -2 ∧ mu2 = mu) ∨ ((hasB mu 3 cup && inB lf 0 99) = true ∧ ¬ mu 9 2 = 0 ∧ fr2 mu mu2 ∧ ∃ c, cup = nI c ∧ c < 4 ∧ r = mdS mu c lf 90)) := by
  refine con_of (own := RX8) (by decide) rfl (Nat.le_of_ble_eq_true rfl) (fun X g hq => ?_)
  show WA X g RX8 8 cX8_mended 0 [(0, vC 0), (1, vI cup), (2, vI lf)] [] mu
  refine o_aload_n dX8_mended_0 rfl rfl (by rfl) ?_
  refine o_getC (q := 1) cl_X8_10 dX8_mended_1 rfl (by decide) (by rfl) (by rfl) ?_
  refine o_getC (q := 3) cl_X8_74 dX8_mended_4 rfl (by decide) (by rfl) (by rfl) ?_
  refine o_iload_n dX8_mended_7 rfl rfl (by rfl) ?_
  refine o_callV cs_X6_has cv_X8_88 (c_has 3 4 5 tab3 _ cup) hq.2.2.2 (Nat.le_of_ble_eq_true rfl) dX8_mended_8 rfl (by decide) (by rfl) (by rfl) (by rfl) rfl rfl (Nat.le_of_ble_eq_true rfl) (fun r1 mu1 h1 => ?_)
  obtain ⟨em, h1⟩ := h1
  rw [em]
  refine o_if_eq (tgt := 24) dX8_mended_11 (by decide) rfl (fun (c11 : r1 = 0) => ?_) (fun (c11 : ¬ r1 = 0) => ?_)
  · skip
    have b11 := (if10 h1).1 c11
    refine o_iconst (v := (-1)) dX8_mended_24 rfl (by decide) ?_
    exact o_iret hq dX8_mended_25 (Or.inl ⟨by simp [b11], rfl, rfl⟩)
  · skip
    have b11 := (if10 h1).2 c11
    refine o_iload_n dX8_mended_14 rfl rfl (by rfl) ?_
    refine o_iconst (v := 0) dX8_mended_15 rfl (by decide) ?_
    refine o_bipush (v := 99) dX8_mended_16 rfl (by decide) ?_
    refine o_callS cs_X8_isIn ct_X8_60 (c_isIn _ lf 0 99) hq.2.2.2 (Nat.le_of_ble_eq_true rfl) dX8_mended_18 rfl rfl rfl (Nat.le_of_ble_eq_true rfl) (fun r2 mu2 h2 => ?_)
    obtain ⟨em, h2⟩ := h2
    rw [em]
    refine o_if_ne (tgt := 26) dX8_mended_21 (by decide) rfl (fun (c21 : ¬ r2 = 0) => ?_) (fun (c21 : r2 = 0) => ?_)
    · skip
      have b21 := (if10 h2).2 c21
      refine o_aload_n dX8_mended_26 rfl rfl (by rfl) ?_
      refine o_getC (q := 1) cl_X8_10 dX8_mended_27 rfl (by decide) (by rfl) (by rfl) ?_
      refine o_callV cs_X4_hasNoPart cv_X8_189 (c_noPart _) hq.2.2.2 (Nat.le_of_ble_eq_true rfl) dX8_mended_30 rfl (by decide) (by rfl) (by rfl) (by rfl) rfl rfl (Nat.le_of_ble_eq_true rfl) (fun r3 mu3 h3 => ?_)
      obtain ⟨em, h3⟩ := h3
      rw [em]
      refine o_if_eq (tgt := 39) dX8_mended_33 (by decide) rfl (fun (c33 : r3 = 0) => ?_) (fun (c33 : ¬ r3 = 0) => ?_)
      · skip
        have b33 := (if10 h3).1 c33
        obtain ⟨nc, hz, ez⟩ := hS.nc
        obtain ⟨c, ec, hc⟩ := hasB_nI ez (by omega) b11
        subst ec
        refine o_aload_n dX8_mended_39 rfl rfl (by rfl) ?_
        refine o_getC (q := 1) cl_X8_10 dX8_mended_40 rfl (by decide) (by rfl) (by rfl) ?_
        refine o_getC (q := 2) cl_X8_71 dX8_mended_43 rfl (by decide) (by rfl) (by rfl) ?_
        refine o_iconst (v := 0) dX8_mended_46 rfl (by decide) ?_
        refine o_iald dX8_mended_47 rfl (by decide) (by rfl) (by rfl) (vp_in_nI (n := 0) (by decide) (by decide)) ?_
        refine o_istore_n (L' := [(0, vC 0), (1, vI (nI c)), (2, vI lf), (3, vI (mu 2 0))]) dX8_mended_48 rfl rfl (by decide) (by rfl) (by rfl) ?_
        refine o_iconst (v := 0) dX8_mended_49 rfl (by decide) ?_
        refine o_istore (L' := [(0, vC 0), (1, vI (nI c)), (2, vI lf), (3, vI (mu 2 0)), (4, vI 0)]) dX8_mended_50 rfl (by decide) (by rfl) (by rfl) ?_
        refine o_iconst (v := 0) dX8_mended_52 rfl (by decide) ?_
        refine o_istore (L' := [(0, vC 0), (1, vI (nI c)), (2, vI lf), (3, vI (mu 2 0)), (4, vI 0), (5, vI 0)]) dX8_mended_53 rfl (by decide) (by rfl) (by rfl) ?_
        have LP55 : ∀ (nLP55 : Nat) (k : Nat) (m : Mu) , (k ≤ 90) → (fr2 mu m) → (90 < k + nLP55) → WA X g RX8 8 cX8_mended 55 [(0, vC 0), (1, vI (nI c)), (2, vI lf), (3, vI (mu 2 0)), (4, vI (mdS mu c lf k)), (5, vI (nI k))] [] m := by
          intro nLP55
          induction nLP55 with
          | zero =>
            intro k m hk hF hm
            exact absurd hm (by omega)
          | succ nLP55 ihLP55 =>
            intro k m hk hF hm
            refine o_iload dX8_mended_55 rfl (by rfl) ?_
            refine o_bipush (v := 90) dX8_mended_57 rfl (by decide) ?_
            refine o_icmp_ge (tgt := 118) dX8_mended_59 (by decide) rfl (fun (c59 : 90 ≤ (nI k)) => ?_) (fun (c59 : ¬ 90 ≤ (nI k)) => ?_)
            · skip
              have hk2 := nI_dec2 (b := 90) c59 (by omega) (by decide)
              have e2 : k = 90 := by omega
              refine o_iload dX8_mended_118 rfl (by rfl) ?_
              exact o_iret hq dX8_mended_120 (Or.inr (Or.inr ⟨by simp [b11, b21, b33], fun e => b33 (decide_eq_true e), hF, c, rfl, by omega, by rw [e2]⟩))
            · skip
              have hk2 := nI_dec (b := 90) c59 (by omega) (by decide)
              refine o_iload dX8_mended_62 rfl (by rfl) ?_
              refine o_callS cs_X0_uOf ct_X8_218 (c_X0_uOf _ k (by omega)) hq.2.2.2 (Nat.le_of_ble_eq_true rfl) dX8_mended_64 rfl rfl rfl (Nat.le_of_ble_eq_true rfl) (fun r4 mu4 h4 => ?_)
              obtain ⟨em, h4⟩ := h4
              rw [em]
              subst h4
              refine o_istore (L' := [(0, vC 0), (1, vI (nI c)), (2, vI lf), (3, vI (mu 2 0)), (4, vI (mdS mu c lf k)), (5, vI (nI k)), (6, vI (gU k))]) dX8_mended_67 rfl (by decide) (by rfl) (by rfl) ?_
              refine o_iload dX8_mended_69 rfl (by rfl) ?_
              refine o_callS cs_X0_vOf ct_X8_221 (c_X0_vOf _ k (by omega)) hq.2.2.2 (Nat.le_of_ble_eq_true rfl) dX8_mended_71 rfl rfl rfl (Nat.le_of_ble_eq_true rfl) (fun r5 mu5 h5 => ?_)
              obtain ⟨em, h5⟩ := h5
              rw [em]
              subst h5
              refine o_istore (L' := [(0, vC 0), (1, vI (nI c)), (2, vI lf), (3, vI (mu 2 0)), (4, vI (mdS mu c lf k)), (5, vI (nI k)), (6, vI (gU k)), (7, vI (gV k))]) dX8_mended_74 rfl (by decide) (by rfl) (by rfl) ?_
              refine o_aload_n dX8_mended_76 rfl rfl (by rfl) ?_
              refine o_getC (q := 53) cl_X8_28 dX8_mended_77 rfl (by decide) (by rfl) (by rfl) ?_
              refine o_iload_n dX8_mended_80 rfl rfl (by rfl) ?_
              refine o_iload dX8_mended_81 rfl (by rfl) ?_
              refine o_iload dX8_mended_83 rfl (by rfl) ?_
              refine o_callV cs_X7_endBy cv_X8_192 (c_X7_endBy m (hS.cg (fun q a b => hF q (by omega) (by omega))) (mu 2 0) (gU k) (gV k) hS.1.1 (gU_rg (by omega)) gV_rg) hq.2.2.2 (Nat.le_of_ble_eq_true rfl) dX8_mended_85 rfl (by decide) (by rfl) (by rfl) (by rfl) rfl rfl (Nat.le_of_ble_eq_true rfl) (fun rE mE hE => ?_)
              have hFE : fr2 mu mE := fun q a b => by rw [hE.1 q a b, hF q a b]
              have hE2 : rE = eG mu (mu 2 0) k := by rw [hE.2, tv_cg hS.t9 (fun q a b => hF q (by omega) (by omega))]; rfl
              refine o_iload_n dX8_mended_88 rfl rfl (by rfl) ?_
              refine o_icmp_eq (tgt := 112) dX8_mended_89 (by decide) rfl (fun (c89 : rE = (nI c)) => ?_) (fun (c89 : ¬ rE = (nI c)) => ?_)
              · skip
                refine o_iinc (v := nI (k + 1)) (L' := [(0, vC 0), (1, vI (nI c)), (2, vI lf), (3, vI (mu 2 0)), (4, vI (mdS mu c lf k)), (5, vI (nI (k + 1))), (6, vI (gU k)), (7, vI (gV k))]) dX8_mended_112 rfl (by rfl) (by exact nI_1 k) (by decide) (by rfl) (by rfl) ?_
                refine o_goto (tgt := 55) dX8_mended_115 (by decide) ?_
                refine o_pick (L' := [(0, vC 0), (1, vI (nI c)), (2, vI lf), (3, vI (mu 2 0)), (4, vI (mdS mu c lf k)), (5, vI (nI (k + 1)))]) [0, 1, 2, 3, 4, 5] (by rfl) ?_
                rw [show (mdS mu c lf k) = mdS mu c lf (k + 1) by show _ = mdS mu c lf k + (if ¬ eG mu (mu 2 0) k = nI c ∧ lG mu c lf k = nI c then 1 else 0); rw [if_neg (fun h => h.1 (by rw [← hE2]; exact c89))]; exact (Int32.add_zero _).symm]
                exact ihLP55 (k + 1) _ (by omega) hFE (by omega)
              · skip
                refine o_aload_n dX8_mended_92 rfl rfl (by rfl) ?_
                refine o_getC (q := 53) cl_X8_28 dX8_mended_93 rfl (by decide) (by rfl) (by rfl) ?_
                refine o_iload_n dX8_mended_96 rfl rfl (by rfl) ?_
                refine o_iload_n dX8_mended_97 rfl rfl (by rfl) ?_
                refine o_iload dX8_mended_98 rfl (by rfl) ?_
                refine o_iload dX8_mended_100 rfl (by rfl) ?_
                refine o_callV cs_X7_endLate cv_X8_227 (c_X7_endLate mE (hS.cg (fun q a b => hFE q (by omega) (by omega))) c lf (gU k) (gV k) (by rw [hFE 3 (by decide) (by decide), ez]; exact nI_lt hc (by omega)) (by omega) (gU_rg (by omega)) gV_rg) hq.2.2.2 (Nat.le_of_ble_eq_true rfl) dX8_mended_102 rfl (by decide) (by rfl) (by rfl) (by rfl) rfl rfl (Nat.le_of_ble_eq_true rfl) (fun rL mL hL => ?_)
                have hFL : fr2 mu mL := fun q a b => by rw [hL.1 q a b, hFE q a b]
                have hL2 : rL = lG mu c lf k := by rw [hL.2, tv_cg hS.t9 (fun q a b => hFE q (by omega) (by omega)), hFE 2 (by decide) (by decide)]; rfl
                refine o_iload_n dX8_mended_105 rfl rfl (by rfl) ?_
                refine o_icmp_ne (tgt := 112) dX8_mended_106 (by decide) rfl (fun (c106 : ¬ rL = (nI c)) => ?_) (fun (c106 : rL = (nI c)) => ?_)
                · skip
                  refine o_iinc (v := nI (k + 1)) (L' := [(0, vC 0), (1, vI (nI c)), (2, vI lf), (3, vI (mu 2 0)), (4, vI (mdS mu c lf k)), (5, vI (nI (k + 1))), (6, vI (gU k)), (7, vI (gV k))]) dX8_mended_112 rfl (by rfl) (by exact nI_1 k) (by decide) (by rfl) (by rfl) ?_
                  refine o_goto (tgt := 55) dX8_mended_115 (by decide) ?_
                  refine o_pick (L' := [(0, vC 0), (1, vI (nI c)), (2, vI lf), (3, vI (mu 2 0)), (4, vI (mdS mu c lf k)), (5, vI (nI (k + 1)))]) [0, 1, 2, 3, 4, 5] (by rfl) ?_
                  rw [show (mdS mu c lf k) = mdS mu c lf (k + 1) by show _ = mdS mu c lf k + (if ¬ eG mu (mu 2 0) k = nI c ∧ lG mu c lf k = nI c then 1 else 0); rw [if_neg (fun h => c106 (by rw [hL2]; exact h.2))]; exact (Int32.add_zero _).symm]
                  exact ihLP55 (k + 1) _ (by omega) hFL (by omega)
                · skip
                  obtain ⟨x8, ex8⟩ : ∃ y : Int32, y = (mdS mu c lf k) + 1 := ⟨_, rfl⟩
                  refine o_iinc (v := x8) (L' := [(0, vC 0), (1, vI (nI c)), (2, vI lf), (3, vI (mu 2 0)), (4, vI x8), (5, vI (nI k)), (6, vI (gU k)), (7, vI (gV k))]) dX8_mended_109 rfl (by rfl) (by rw [ex8]; rfl) (by decide) (by rfl) (by rfl) ?_
                  refine o_iinc (v := nI (k + 1)) (L' := [(0, vC 0), (1, vI (nI c)), (2, vI lf), (3, vI (mu 2 0)), (4, vI x8), (5, vI (nI (k + 1))), (6, vI (gU k)), (7, vI (gV k))]) dX8_mended_112 rfl (by rfl) (by exact nI_1 k) (by decide) (by rfl) (by rfl) ?_
                  refine o_goto (tgt := 55) dX8_mended_115 (by decide) ?_
                  refine o_pick (L' := [(0, vC 0), (1, vI (nI c)), (2, vI lf), (3, vI (mu 2 0)), (4, vI x8), (5, vI (nI (k + 1)))]) [0, 1, 2, 3, 4, 5] (by rfl) ?_
                  rw [show x8 = mdS mu c lf (k + 1) by show _ = mdS mu c lf k + (if ¬ eG mu (mu 2 0) k = nI c ∧ lG mu c lf k = nI c then 1 else 0); rw [if_pos ⟨by rw [← hE2]; exact c89, by rw [← hL2]; exact c106⟩]; rw [ex8]]
                  exact ihLP55 (k + 1) _ (by omega) hFL (by omega)
        exact LP55 91 0 _ (by omega) (fun _ _ _ => rfl) (by omega)
      · skip
        have b33 := (if10 h3).2 c33
        refine o_bipush (v := (-2)) dX8_mended_36 rfl (by decide) ?_
        exact o_iret hq dX8_mended_38 (Or.inr (Or.inl ⟨by simp [b11, b21, b33], of_decide_eq_true b33, rfl, rfl⟩))
    · skip
      have b21 := (if10 h2).1 c21
      refine o_iconst (v := (-1)) dX8_mended_24 rfl (by decide) ?_
      exact o_iret hq dX8_mended_25 (Or.inl ⟨by simp [b11, b21], rfl, rfl⟩)
