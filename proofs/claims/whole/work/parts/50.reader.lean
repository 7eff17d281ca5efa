/-! ===== Reader ===== -/
def skF (T : Vc) (n : Nat) : Nat → Nat → Nat
  | 0, p => p
  | f + 1, p => if p < n ∧ T p = 32 then skF T n f (p + 1) else p
def sk (T : Vc) (n p : Nat) : Nat := skF T n (n - p) p
theorem sk_go {T : Vc} {n p : Nat} (h : p < n) (h2 : T p = 32) : sk T n p = sk T n (p + 1) := by
  unfold sk
  rw [show n - p = (n - (p + 1)) + 1 by omega]
  show (if p < n ∧ T p = 32 then skF T n (n - (p + 1)) (p + 1) else p) = _
  rw [if_pos ⟨h, h2⟩]
theorem sk_at {T : Vc} {n p : Nat} (h : ¬ (p < n ∧ T p = 32)) : sk T n p = p := by
  unfold sk
  match e : n - p with
  | 0 => rfl
  | f + 1 =>
    show (if p < n ∧ T p = 32 then _ else p) = _
    rw [if_neg h]
theorem skF_le {T : Vc} {n : Nat} : ∀ (f p : Nat), p ≤ n → skF T n f p ≤ n ∧ p ≤ skF T n f p
  | 0, p, h => ⟨h, Nat.le_refl p⟩
  | f + 1, p, h => by
    show (if p < n ∧ T p = 32 then skF T n f (p + 1) else p) ≤ n ∧ p ≤ (if p < n ∧ T p = 32 then skF T n f (p + 1) else p)
    split
    · rename_i q
      have := skF_le (T := T) (n := n) f (p + 1) (by omega)
      omega
    · omega
theorem sk_le {T : Vc} {n p : Nat} (h : p ≤ n) : sk T n p ≤ n ∧ p ≤ sk T n p := skF_le _ p h
theorem skF_stop {T : Vc} {n : Nat} : ∀ (f p : Nat), n - p ≤ f → ¬ (skF T n f p < n ∧ T (skF T n f p) = 32)
  | 0, p, h => by show ¬ (p < n ∧ _); omega
  | f + 1, p, h => by
    show ¬ ((if p < n ∧ T p = 32 then skF T n f (p + 1) else p) < n ∧ T (if p < n ∧ T p = 32 then skF T n f (p + 1) else p) = 32)
    by_cases q : p < n ∧ T p = 32
    · rw [if_pos q]
      exact skF_stop f (p + 1) (by omega)
    · rw [if_neg q]
      exact q
theorem sk_stop (T : Vc) (n p : Nat) : ¬ (sk T n p < n ∧ T (sk T n p) = 32) := skF_stop _ p (Nat.le_refl _)
theorem sk_sk (T : Vc) (n p : Nat) : sk T n (sk T n p) = sk T n p := sk_at (sk_stop T n p)
def nx (T : Vc) (n p : Nat) : Int32 := if sk T n p < n then T (sk T n p) else -1
abbrev PSt : Type := Nat × Bool
def pTk (T : Vc) (n : Nat) (b : Int32) (s : PSt) : Bool × PSt := if s.2 = true then (if nx T n s.1 = b then (true, (sk T n s.1 + 1, true)) else (false, (sk T n s.1, true))) else (false, s)
def pDg (T : Vc) (n : Nat) (s : PSt) : Int32 × PSt := if s.2 = true then (if inB (nx T n s.1) 48 57 = true then (nx T n s.1 - 48, (sk T n s.1 + 1, true)) else (0, (sk T n s.1, false))) else (0, s)
def pSg (T : Vc) (n : Nat) (s : PSt) : Int32 × PSt := if (pTk T n 45 s).1 = true then (-(pDg T n (pTk T n 45 s).2).1, (pDg T n (pTk T n 45 s).2).2) else (if (pTk T n 43 (pTk T n 45 s).2).1 = true then pDg T n (pTk T n 43 (pTk T n 45 s).2).2 else (0, ((pTk T n 43 (pTk T n 45 s).2).2.1, false)))
def numF (T : Vc) (n : Nat) : Nat → Nat → Nat → Nat × Nat
  | 0, v, p => (v, p)
  | f + 1, v, p => if p < n ∧ inB (T p) 48 57 = true then numF T n f (10 * v + ((T p).toNatClampNeg - 48)) (p + 1) else (v, p)
def num (T : Vc) (n v p : Nat) : Nat × Nat := numF T n (n - p) v p
theorem num_go {T : Vc} {n v p : Nat} (h : p < n ∧ inB (T p) 48 57 = true) : num T n v p = num T n (10 * v + ((T p).toNatClampNeg - 48)) (p + 1) := by
  unfold num
  rw [show n - p = (n - (p + 1)) + 1 by omega]
  show (if p < n ∧ inB (T p) 48 57 = true then numF T n (n - (p + 1)) _ (p + 1) else (v, p)) = _
  rw [if_pos h]
theorem num_at {T : Vc} {n v p : Nat} (h : ¬ (p < n ∧ inB (T p) 48 57 = true)) : num T n v p = (v, p) := by
  unfold num
  match e : n - p with
  | 0 => rfl
  | f + 1 =>
    show (if p < n ∧ inB (T p) 48 57 = true then _ else (v, p)) = _
    rw [if_neg h]
theorem numF_le {T : Vc} {n : Nat} : ∀ (f v p : Nat), p ≤ n → (numF T n f v p).2 ≤ n
  | 0, v, p, h => h
  | f + 1, v, p, h => by
    show (if p < n ∧ inB (T p) 48 57 = true then numF T n f (10 * v + ((T p).toNatClampNeg - 48)) (p + 1) else (v, p)).2 ≤ n
    split
    · exact numF_le f _ (p + 1) (by omega)
    · exact h
def pNm (T : Vc) (n lo hi : Nat) (s : PSt) : Nat × PSt := if s.2 = true then (if inB (nx T n s.1) 48 57 = true then (if lo ≤ (num T n 0 (sk T n s.1)).1 ∧ (num T n 0 (sk T n s.1)).1 ≤ hi then ((num T n 0 (sk T n s.1)).1, ((num T n 0 (sk T n s.1)).2, true)) else (0, (sk T n s.1, false))) else (0, (sk T n s.1, false))) else (0, s)
/-- the reader at a state of the parser -/
def PS (m : Mu) (n : Nat) (s : PSt) : Prop := m 70 1 = nI n ∧ n ≤ 60 ∧ s.1 ≤ n ∧ ((s.2 = true ∧ m 70 3 = -1 ∧ m 70 2 = nI s.1) ∨ (s.2 = false ∧ m 70 3 = nI s.1 ∧ ∃ q, q ≤ n ∧ m 70 2 = nI q))
def fr70 (mu m : Mu) : Prop := ∀ q, q ≠ 70 → m q = mu q
theorem PS.ok {m : Mu} {n : Nat} {s : PSt} (h : PS m n s) (e : m 70 3 = -1) : s.2 = true ∧ m 70 2 = nI s.1 := by
  obtain ⟨h1, h2, h3, h4⟩ := h
  rcases h4 with ⟨a, b, c⟩ | ⟨a, b, -⟩
  · exact ⟨a, c⟩
  · rw [b] at e
    exact absurd e (nI_nem1 (by omega))
theorem PS.no {m : Mu} {n : Nat} {s : PSt} (h : PS m n s) (e : ¬ m 70 3 = -1) : s.2 = false := by
  obtain ⟨h1, h2, h3, h4⟩ := h
  rcases h4 with ⟨a, b, c⟩ | ⟨a, b, -⟩
  · exact absurd b e
  · exact a
theorem PS.pl {m : Mu} {n : Nat} {s : PSt} (h : PS m n s) : ∃ q, q ≤ n ∧ m 70 2 = nI q ∧ (s.2 = true → q = s.1) := by
  obtain ⟨h1, h2, h3, h4⟩ := h
  rcases h4 with ⟨a, b, c⟩ | ⟨a, b, q, hq, c⟩
  · exact ⟨s.1, h3, c, fun _ => rfl⟩
  · exact ⟨q, hq, c, fun e => by rw [a] at e; cases e⟩
set_option maxHeartbeats 4000000 in
set_option maxRecDepth 100000 in
theorem c_X3_next (mu : Mu) (n p : Nat) (en : mu 70 1 = nI n) (hn : n ≤ 60) (hp : p ≤ n) (ep : mu 70 2 = nI p) : Con yX3_next cX3_next 1 (some .int) 0 [vC 70] mu (fun r mu2 => r = nx (mu 71) n p ∧ fr70 mu mu2 ∧ (∀ j, j ≠ 2 → mu2 70 j = mu 70 j) ∧ mu2 70 2 = nI (sk (mu 71) n p)) := by
  refine con_of (own := RX3) (by decide) rfl (Nat.le_of_ble_eq_true rfl) (fun X g hq => ?_)
  show WA X g RX3 1 cX3_next 0 [(0, vC 70)] [] mu
  have LP0 : ∀ (nLP0 : Nat) (i : Nat) (m : Mu) , (i ≤ n) → (fr70 mu m) → (∀ j, j ≠ 2 → m 70 j = mu 70 j) → (m 70 2 = nI i) → (sk (mu 71) n i = sk (mu 71) n p) → (n < i + nLP0) → WA X g RX3 1 cX3_next 0 [(0, vC 70)] [] m := by
    intro nLP0
    induction nLP0 with
    | zero =>
      intro i m hi hF hJ ei hs hm
      exact absurd hm (by omega)
    | succ nLP0 ihLP0 =>
      intro i m hi hF hJ ei hs hm
      refine o_aload_n dX3_next_0 rfl rfl (by rfl) ?_
      refine o_getI cl_X3_53 dX3_next_1 rfl (by decide) (by rfl) (by rfl) ?_
      refine o_aload_n dX3_next_4 rfl rfl (by rfl) ?_
      refine o_getI cl_X3_27 dX3_next_5 rfl (by decide) (by rfl) (by rfl) ?_
      refine o_icmp_ge (tgt := 38) dX3_next_8 (by decide) rfl (fun (c8 : (m 70 1) ≤ (m 70 2)) => ?_) (fun (c8 : ¬ (m 70 1) ≤ (m 70 2)) => ?_)
      · skip
        rw [ei, hJ 1 (by decide), en] at c8
        have hni := nI_dec2 c8 (by omega) (by omega)
        have e9 : sk (mu 71) n i = i := sk_at (fun h => by omega)
        refine o_aload_n dX3_next_38 rfl rfl (by rfl) ?_
        refine o_getI cl_X3_53 dX3_next_39 rfl (by decide) (by rfl) (by rfl) ?_
        refine o_aload_n dX3_next_42 rfl rfl (by rfl) ?_
        refine o_getI cl_X3_27 dX3_next_43 rfl (by decide) (by rfl) (by rfl) ?_
        refine o_icmp_ge (tgt := 61) dX3_next_46 (by decide) rfl (fun (c46 : (m 70 1) ≤ (m 70 2)) => ?_) (fun (c46 : ¬ (m 70 1) ≤ (m 70 2)) => ?_)
        · skip
          rw [ei, hJ 1 (by decide), en] at c46
          have hni2 := nI_dec2 c46 (by omega) (by omega)
          refine o_iconst (v := (-1)) dX3_next_61 rfl (by decide) ?_
          exact o_iret hq dX3_next_62 ⟨by unfold nx; rw [← hs, e9, if_neg (by omega)], hF, hJ, by rw [← hs, e9]; exact ei⟩
        · skip
          rw [ei, hJ 1 (by decide), en] at c46
          have hin2 := nI_dec c46 (by omega) (by omega)
          refine o_aload_n dX3_next_49 rfl rfl (by rfl) ?_
          refine o_getC (q := 71) cl_X3_9 dX3_next_50 rfl (by decide) (by rfl) (by rfl) ?_
          refine o_aload_n dX3_next_53 rfl rfl (by rfl) ?_
          refine o_getI cl_X3_53 dX3_next_54 rfl (by decide) (by rfl) (by rfl) ?_
          refine o_iald dX3_next_57 rfl (by decide) (by rfl) (by rfl) (by rw [ei]; exact vp_in_nI (by omega) (by decide)) ?_
          refine o_goto (tgt := 62) dX3_next_58 (by decide) ?_
          exact o_iret hq dX3_next_62 ⟨by unfold nx; rw [← hs, e9, if_pos hin2, ei, nI_clamp (by omega), hF 71 (by decide)], hF, hJ, by rw [← hs, e9]; exact ei⟩
      · skip
        rw [ei, hJ 1 (by decide), en] at c8
        have hin := nI_dec c8 (by omega) (by omega)
        refine o_aload_n dX3_next_11 rfl rfl (by rfl) ?_
        refine o_getC (q := 71) cl_X3_9 dX3_next_12 rfl (by decide) (by rfl) (by rfl) ?_
        refine o_aload_n dX3_next_15 rfl rfl (by rfl) ?_
        refine o_getI cl_X3_53 dX3_next_16 rfl (by decide) (by rfl) (by rfl) ?_
        refine o_iald dX3_next_19 rfl (by decide) (by rfl) (by rfl) (by rw [ei]; exact vp_in_nI (by omega) (by decide)) ?_
        refine o_bipush (v := 32) dX3_next_20 rfl (by decide) ?_
        refine o_icmp_ne (tgt := 38) dX3_next_22 (by decide) rfl (fun (c22 : ¬ (m 71 (m 70 2).toNatClampNeg) = 32) => ?_) (fun (c22 : (m 71 (m 70 2).toNatClampNeg) = 32) => ?_)
        · skip
          have e9 : sk (mu 71) n i = i := sk_at (fun h => c22 (by rw [ei, nI_clamp (by omega), hF 71 (by decide)]; exact h.2))
          refine o_aload_n dX3_next_38 rfl rfl (by rfl) ?_
          refine o_getI cl_X3_53 dX3_next_39 rfl (by decide) (by rfl) (by rfl) ?_
          refine o_aload_n dX3_next_42 rfl rfl (by rfl) ?_
          refine o_getI cl_X3_27 dX3_next_43 rfl (by decide) (by rfl) (by rfl) ?_
          refine o_icmp_ge (tgt := 61) dX3_next_46 (by decide) rfl (fun (c46 : (m 70 1) ≤ (m 70 2)) => ?_) (fun (c46 : ¬ (m 70 1) ≤ (m 70 2)) => ?_)
          · skip
            rw [ei, hJ 1 (by decide), en] at c46
            have hni2 := nI_dec2 c46 (by omega) (by omega)
            refine o_iconst (v := (-1)) dX3_next_61 rfl (by decide) ?_
            exact o_iret hq dX3_next_62 ⟨by unfold nx; rw [← hs, e9, if_neg (by omega)], hF, hJ, by rw [← hs, e9]; exact ei⟩
          · skip
            rw [ei, hJ 1 (by decide), en] at c46
            have hin2 := nI_dec c46 (by omega) (by omega)
            refine o_aload_n dX3_next_49 rfl rfl (by rfl) ?_
            refine o_getC (q := 71) cl_X3_9 dX3_next_50 rfl (by decide) (by rfl) (by rfl) ?_
            refine o_aload_n dX3_next_53 rfl rfl (by rfl) ?_
            refine o_getI cl_X3_53 dX3_next_54 rfl (by decide) (by rfl) (by rfl) ?_
            refine o_iald dX3_next_57 rfl (by decide) (by rfl) (by rfl) (by rw [ei]; exact vp_in_nI (by omega) (by decide)) ?_
            refine o_goto (tgt := 62) dX3_next_58 (by decide) ?_
            exact o_iret hq dX3_next_62 ⟨by unfold nx; rw [← hs, e9, if_pos hin2, ei, nI_clamp (by omega), hF 71 (by decide)], hF, hJ, by rw [← hs, e9]; exact ei⟩
        · skip
          have cc : m 71 i = 32 := by have h := c22; rw [ei, nI_clamp (by omega)] at h; exact h
          refine o_aload_n dX3_next_25 rfl rfl (by rfl) ?_
          refine o_dup dX3_next_26 rfl rfl ?_
          refine o_getI cl_X3_53 dX3_next_27 rfl (by decide) (by rfl) (by rfl) ?_
          refine o_iconst (v := 1) dX3_next_30 rfl (by decide) ?_
          refine o_iadd dX3_next_31 rfl ?_
          refine o_put cl_X3_53 cp_X3_2 dX3_next_32 rfl (by decide) (by rfl) (by rfl) fitI ?_
          refine o_goto (tgt := 0) dX3_next_35 (by decide) ?_
          exact ihLP0 (i + 1) _ (by omega) (fun q hq => by rw [upF_k hq]; exact hF q hq) (fun j hj => by rw [upF_i hj]; exact hJ j hj) (by rw [upF_s, ei, nI_1]) (by rw [← hs, sk_go hin (by rw [← hF 71 (by decide)]; exact cc)]) (by omega)
  exact LP0 (n + 1) p _ hp (fun _ _ => rfl) (fun _ _ => rfl) ep rfl (by omega)
set_option maxHeartbeats 4000000 in
set_option maxRecDepth 100000 in
theorem c_X3_faultAt (mu : Mu) (w : Int32) : ConV yX3_faultAt cX3_faultAt 2 0 [vC 70, vI w] mu (fun mu2 => mu2 = if mu 70 3 = -1 then upF mu 70 3 w else mu) := by
  refine conV_of (own := RX3) (by decide) rfl (Nat.le_of_ble_eq_true rfl) (fun X g hq => ?_)
  show WA X g RX3 2 cX3_faultAt 0 [(0, vC 70), (1, vI w)] [] mu
  refine o_aload_n dX3_faultAt_0 rfl rfl (by rfl) ?_
  refine o_getI cl_X3_56 dX3_faultAt_1 rfl (by decide) (by rfl) (by rfl) ?_
  refine o_iconst (v := (-1)) dX3_faultAt_4 rfl (by decide) ?_
  refine o_icmp_ne (tgt := 13) dX3_faultAt_5 (by decide) rfl (fun (c5 : ¬ (mu 70 3) = ((-1))) => ?_) (fun (c5 : (mu 70 3) = ((-1))) => ?_)
  · skip
    exact o_vret hq dX3_faultAt_13 (by rw [if_neg c5])
  · skip
    refine o_aload_n dX3_faultAt_8 rfl rfl (by rfl) ?_
    refine o_iload_n dX3_faultAt_9 rfl rfl (by rfl) ?_
    refine o_put cl_X3_56 cp_X3_3 dX3_faultAt_10 rfl (by decide) (by rfl) (by rfl) fitI ?_
    exact o_vret hq dX3_faultAt_13 (by rw [if_pos c5])
theorem pTk_no {T : Vc} {n : Nat} {b : Int32} {s : PSt} (h : s.2 = false) : pTk T n b s = (false, s) := by
  unfold pTk
  rw [if_neg (by rw [h]; decide)]
theorem sk_lt {T : Vc} {n p : Nat} {b : Int32} (hb : ¬ b = -1) (h : nx T n p = b) : sk T n p + 1 ≤ n := by
  unfold nx at h
  by_cases q : sk T n p < n
  · omega
  · rw [if_neg q] at h
    exact absurd h.symm hb
set_option maxHeartbeats 4000000 in
set_option maxRecDepth 100000 in
theorem c_X3_takes (mu : Mu) (n : Nat) (s : PSt) (hP : PS mu n s) (b : Int32) (hb : ¬ b = -1) : Con yX3_takes cX3_takes 2 (some .boolean) 1 [vC 70, vI b] mu (fun r mu2 => r = (if (pTk (mu 71) n b s).1 = true then 1 else 0) ∧ fr70 mu mu2 ∧ PS mu2 n (pTk (mu 71) n b s).2) := by
  refine con_of (own := RX3) (by decide) rfl (Nat.le_of_ble_eq_true rfl) (fun X g hq => ?_)
  show WA X g RX3 2 cX3_takes 0 [(0, vC 70), (1, vI b)] [] mu
  obtain ⟨en, hn, hs, -⟩ := id hP
  obtain ⟨pq, hpq, epq, hpqs⟩ := hP.pl
  refine o_aload_n dX3_takes_0 rfl rfl (by rfl) ?_
  refine o_getI cl_X3_56 dX3_takes_1 rfl (by decide) (by rfl) (by rfl) ?_
  refine o_iconst (v := (-1)) dX3_takes_4 rfl (by decide) ?_
  refine o_icmp_ne (tgt := 16) dX3_takes_5 (by decide) rfl (fun (c5 : ¬ (mu 70 3) = ((-1))) => ?_) (fun (c5 : (mu 70 3) = ((-1))) => ?_)
  · skip
    have hno := hP.no c5
    refine o_iconst (v := 0) dX3_takes_16 rfl (by decide) ?_
    exact o_zret hq dX3_takes_17 (Or.inl rfl) ⟨by rw [pTk_no hno]; rfl, fun _ _ => rfl, by rw [pTk_no hno]; exact hP⟩
  · skip
    have hok := hP.ok c5
    refine o_aload_n dX3_takes_8 rfl rfl (by rfl) ?_
    refine o_callV cs_X3_next cv_X3_59 (c_X3_next mu n s.1 en hn hs hok.2) hq.2.2.2 (Nat.le_of_ble_eq_true rfl) dX3_takes_9 rfl (by decide) (by rfl) (by rfl) (by rfl) rfl rfl (Nat.le_of_ble_eq_true rfl) (fun rN mN hN => ?_)
    refine o_iload_n dX3_takes_12 rfl rfl (by rfl) ?_
    refine o_icmp_eq (tgt := 18) dX3_takes_13 (by decide) rfl (fun (c13 : rN = b) => ?_) (fun (c13 : ¬ rN = b) => ?_)
    · skip
      refine o_aload_n dX3_takes_18 rfl rfl (by rfl) ?_
      refine o_dup dX3_takes_19 rfl rfl ?_
      refine o_getI cl_X3_53 dX3_takes_20 rfl (by decide) (by rfl) (by rfl) ?_
      refine o_iconst (v := 1) dX3_takes_23 rfl (by decide) ?_
      refine o_iadd dX3_takes_24 rfl ?_
      refine o_put cl_X3_53 cp_X3_2 dX3_takes_25 rfl (by decide) (by rfl) (by rfl) fitI ?_
      refine o_iconst (v := 1) dX3_takes_28 rfl (by decide) ?_
      exact o_zret hq dX3_takes_29 (Or.inr rfl) ⟨by unfold pTk; rw [if_pos hok.1, if_pos (hN.1.symm.trans c13)]; rfl, fun q hq => by rw [upF_k hq]; exact hN.2.1 q hq, by unfold pTk; rw [if_pos hok.1, if_pos (hN.1.symm.trans c13)]; exact ⟨by rw [upF_i (by decide), hN.2.2.1 1 (by decide)]; exact en, hn, sk_lt hb (hN.1.symm.trans c13), Or.inl ⟨rfl, by rw [upF_i (by decide), hN.2.2.1 3 (by decide)]; exact c5, by rw [upF_s, hN.2.2.2, nI_1]⟩⟩⟩
    · skip
      refine o_iconst (v := 0) dX3_takes_16 rfl (by decide) ?_
      exact o_zret hq dX3_takes_17 (Or.inl rfl) ⟨by unfold pTk; rw [if_pos hok.1, if_neg (fun e => c13 (hN.1.trans e))]; rfl, hN.2.1, by unfold pTk; rw [if_pos hok.1, if_neg (fun e => c13 (hN.1.trans e))]; exact ⟨by rw [hN.2.2.1 1 (by decide)]; exact en, hn, (sk_le hs).1, Or.inl ⟨rfl, by rw [hN.2.2.1 3 (by decide)]; exact c5, hN.2.2.2⟩⟩⟩
theorem in_m1 {T : Vc} {n p : Nat} (h : inB (nx T n p) 48 57 = true) : sk T n p < n ∧ nx T n p = T (sk T n p) := by
  unfold nx at h ⊢
  by_cases q : sk T n p < n
  · rw [if_pos q]
    exact ⟨q, rfl⟩
  · rw [if_neg q] at h
    exact absurd h (by decide)
set_option maxHeartbeats 4000000 in
set_option maxRecDepth 100000 in
theorem c_X3_digit (mu : Mu) (n : Nat) (s : PSt) (hP : PS mu n s) : Con yX3_digit cX3_digit 2 (some .int) 1 [vC 70] mu (fun r mu2 => r = (pDg (mu 71) n s).1 ∧ fr70 mu mu2 ∧ PS mu2 n (pDg (mu 71) n s).2) := by
  refine con_of (own := RX3) (by decide) rfl (Nat.le_of_ble_eq_true rfl) (fun X g hq => ?_)
  show WA X g RX3 2 cX3_digit 0 [(0, vC 70)] [] mu
  obtain ⟨en, hn, hs, -⟩ := id hP
  obtain ⟨pq, hpq, epq, hpqs⟩ := hP.pl
  refine o_aload_n dX3_digit_0 rfl rfl (by rfl) ?_
  refine o_callV cs_X3_next cv_X3_59 (c_X3_next mu n pq en hn hpq epq) hq.2.2.2 (Nat.le_of_ble_eq_true rfl) dX3_digit_1 rfl (by decide) (by rfl) (by rfl) (by rfl) rfl rfl (Nat.le_of_ble_eq_true rfl) (fun rN mN hN => ?_)
  have e3 : mN 70 3 = mu 70 3 := hN.2.2.1 3 (by decide)
  have e1 : mN 70 1 = nI n := by rw [hN.2.2.1 1 (by decide)]; exact en
  refine o_istore_n (L' := [(0, vC 70), (1, vI rN)]) dX3_digit_4 rfl rfl (by decide) (by rfl) (by rfl) ?_
  refine o_aload_n dX3_digit_5 rfl rfl (by rfl) ?_
  refine o_getI cl_X3_56 dX3_digit_6 rfl (by decide) (by rfl) (by rfl) ?_
  refine o_iconst (v := (-1)) dX3_digit_9 rfl (by decide) ?_
  refine o_icmp_ne (tgt := 24) dX3_digit_10 (by decide) rfl (fun (c10 : ¬ (mN 70 3) = ((-1))) => ?_) (fun (c10 : (mN 70 3) = ((-1))) => ?_)
  · skip
    rw [e3] at c10
    have hno := hP.no c10
    refine o_aload_n dX3_digit_24 rfl rfl (by rfl) ?_
    refine o_aload_n dX3_digit_25 rfl rfl (by rfl) ?_
    refine o_getI cl_X3_53 dX3_digit_26 rfl (by decide) (by rfl) (by rfl) ?_
    refine o_callVV cs_X3_faultAt cv_X3_62 (c_X3_faultAt _ (mN 70 2)) hq.2.2.2 (Nat.le_of_ble_eq_true rfl) dX3_digit_29 rfl (by decide) (by rfl) (by rfl) (by rfl) rfl rfl (Nat.le_of_ble_eq_true rfl) (fun mA hA => ?_)
    refine o_iconst (v := 0) dX3_digit_32 rfl (by decide) ?_
    exact o_iret hq dX3_digit_33 ⟨by unfold pDg; rw [if_neg (by rw [hno]; decide)], fun q9 h9 => by rw [hA, if_neg (by rw [e3]; exact c10)]; exact hN.2.1 q9 h9, by unfold pDg; rw [if_neg (by rw [hno]; decide), hA, if_neg (by rw [e3]; exact c10)]; exact ⟨e1, hn, hs, Or.inr ⟨hno, by rw [e3]; exact (hP.2.2.2.resolve_left (fun h => c10 h.2.1)).2.1, sk (mu 71) n pq, (sk_le hpq).1, hN.2.2.2⟩⟩⟩
  · skip
    rw [e3] at c10
    have hok := hP.ok c10
    have e9 := hpqs hok.1
    subst e9
    refine o_iload_n dX3_digit_13 rfl rfl (by rfl) ?_
    refine o_bipush (v := 48) dX3_digit_14 rfl (by decide) ?_
    refine o_bipush (v := 57) dX3_digit_16 rfl (by decide) ?_
    refine o_callS cs_X8_isIn ct_X3_84 (c_isIn _ rN 48 57) hq.2.2.2 (Nat.le_of_ble_eq_true rfl) dX3_digit_18 rfl rfl rfl (Nat.le_of_ble_eq_true rfl) (fun r3 mu3 h3 => ?_)
    obtain ⟨em, h3⟩ := h3
    rw [em]
    refine o_if_ne (tgt := 34) dX3_digit_21 (by decide) rfl (fun (c21 : ¬ r3 = 0) => ?_) (fun (c21 : r3 = 0) => ?_)
    · skip
      have b21 := (if10 h3).2 c21
      rw [hN.1] at b21
      refine o_aload_n dX3_digit_34 rfl rfl (by rfl) ?_
      refine o_dup dX3_digit_35 rfl rfl ?_
      refine o_getI cl_X3_53 dX3_digit_36 rfl (by decide) (by rfl) (by rfl) ?_
      refine o_iconst (v := 1) dX3_digit_39 rfl (by decide) ?_
      refine o_iadd dX3_digit_40 rfl ?_
      refine o_put cl_X3_53 cp_X3_2 dX3_digit_41 rfl (by decide) (by rfl) (by rfl) fitI ?_
      refine o_iload_n dX3_digit_44 rfl rfl (by rfl) ?_
      refine o_bipush (v := 48) dX3_digit_45 rfl (by decide) ?_
      refine o_isub dX3_digit_47 rfl ?_
      exact o_iret hq dX3_digit_48 ⟨by unfold pDg; rw [if_pos hok.1, if_pos b21, hN.1], fun q9 h9 => by rw [upF_k h9]; exact hN.2.1 q9 h9, by unfold pDg; rw [if_pos hok.1, if_pos b21]; exact ⟨by rw [upF_i (by decide)]; exact e1, hn, (in_m1 b21).1, Or.inl ⟨rfl, by rw [upF_i (by decide), e3]; exact c10, by rw [upF_s, hN.2.2.2, nI_1]⟩⟩⟩
    · skip
      have b21 := (if10 h3).1 c21
      rw [hN.1] at b21
      refine o_aload_n dX3_digit_24 rfl rfl (by rfl) ?_
      refine o_aload_n dX3_digit_25 rfl rfl (by rfl) ?_
      refine o_getI cl_X3_53 dX3_digit_26 rfl (by decide) (by rfl) (by rfl) ?_
      refine o_callVV cs_X3_faultAt cv_X3_62 (c_X3_faultAt _ (mN 70 2)) hq.2.2.2 (Nat.le_of_ble_eq_true rfl) dX3_digit_29 rfl (by decide) (by rfl) (by rfl) (by rfl) rfl rfl (Nat.le_of_ble_eq_true rfl) (fun mA hA => ?_)
      refine o_iconst (v := 0) dX3_digit_32 rfl (by decide) ?_
      exact o_iret hq dX3_digit_33 ⟨by unfold pDg; rw [if_pos hok.1, if_neg b21], fun q9 h9 => by rw [hA, if_pos (by rw [e3]; exact c10), upF_k h9]; exact hN.2.1 q9 h9, by unfold pDg; rw [if_pos hok.1, if_neg b21, hA, if_pos (by rw [e3]; exact c10)]; exact ⟨by rw [upF_i (by decide)]; exact e1, hn, (sk_le hs).1, Or.inr ⟨rfl, by rw [upF_s, hN.2.2.2], sk (mu 71) n s.1, (sk_le hs).1, by rw [upF_i (by decide)]; exact hN.2.2.2⟩⟩⟩
