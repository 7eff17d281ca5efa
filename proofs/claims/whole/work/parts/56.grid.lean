/-! ===== Grid: the cells ===== -/
theorem jn_no {mu : Mu} {x cup : Int32} {c : Nat} (h : ∀ b, x = nI b → b < 90 → c < 90 → mu 57 b = 0 → ¬ mu 56 b = cup) : JN mu mu x cup c (nI c) := Or.inr ⟨rfl, rfl, h⟩
theorem in_89 {x : Int32} (h0 : ¬ x < 0) (h1 : ¬ 90 ≤ x) : inB x 0 89 = true := by
  unfold inB
  refine decide_eq_true ⟨h0, fun h => h1 ?_⟩
  rw [i_lt] at h
  rw [i_le]
  have e1 : (89 : Int32).toInt = 89 := rfl
  have e2 : (90 : Int32).toInt = 90 := rfl
  omega
theorem add_sub1 (x : Int32) : x + 1 - 1 = x := by rw [Int32.add_sub_cancel]
theorem add_sub10 (x : Int32) : x + nI 10 - 10 = x := Int32.add_sub_cancel x 10
theorem nI_m1 {a b : Nat} (e : nI a - 1 = nI b) (ha : a < 90) (hb : b < 90) : b + 1 = a := by
  have h : nI a = nI (b + 1) := by rw [← nI_1, ← e, Int32.sub_add_cancel]
  exact ((nI_eq (by omega) (by omega)).mp h).symm
theorem nI_m10 {a b : Nat} (e : nI a - 10 = nI b) (ha : a < 90) (hb : b < 90) : b + 10 = a := by
  have h : nI a = nI (b + 10) := by rw [← nI_add, ← e]; exact (Int32.sub_add_cancel (nI a) 10).symm
  exact ((nI_eq (by omega) (by omega)).mp h).symm
theorem gV_le {a : Nat} : (gV a ≤ 0 → ¬ 0 < a % 10) ∧ (¬ gV a ≤ 0 → 0 < a % 10) ∧ ((9 : Int32) ≤ gV a → ¬ a % 10 < 9) ∧ (¬ (9 : Int32) ≤ gV a → a % 10 < 9) := by
  unfold gV
  rw [Int32.zero_add]
  have := Nat.mod_lt a (show 0 < 10 by decide)
  refine ⟨fun h => ?_, fun h => ?_, fun h => ?_, fun h => ?_⟩
  · have := nI_dec2 (a := 0) h (by decide) (by omega); omega
  · have := nI_dec (a := 0) h (by decide) (by omega); omega
  · have := nI_dec2 (b := 9) h (by omega) (by decide); omega
  · have := nI_dec (b := 9) h (by omega) (by decide); omega
set_option maxHeartbeats 4000000 in
set_option maxRecDepth 100000 in
theorem c_X0_join (mu : Mu) (x cup : Int32) (c : Nat) (hc9 : c ≤ 90) : Con yX0_join cX0_join 4 (some .int) 0 [vC 55, vI x, vI cup, vI (nI c)] mu (fun r mu2 => JN mu mu2 x cup c r) := by
  refine con_of (own := RX0) (by decide) rfl (Nat.le_of_ble_eq_true rfl) (fun X g hq => ?_)
  show WA X g RX0 4 cX0_join 0 [(0, vC 55), (1, vI x), (2, vI cup), (3, vI (nI c))] [] mu
  refine o_iload_n dX0_join_0 rfl rfl (by rfl) ?_
  refine o_if_lt (tgt := 35) dX0_join_1 (by decide) rfl (fun (c1 : x < 0) => ?_) (fun (c1 : ¬ x < 0) => ?_)
  · skip
    refine o_iload_n dX0_join_35 rfl rfl (by rfl) ?_
    exact o_iret hq dX0_join_36 (jn_no (fun b e h2 h3 h4 h5 => nI_nlt (a := b) (b := 0) (by omega) (by omega) (e ▸ c1)))
  · skip
    refine o_iload_n dX0_join_4 rfl rfl (by rfl) ?_
    refine o_bipush (v := 90) dX0_join_5 rfl (by decide) ?_
    refine o_icmp_ge (tgt := 35) dX0_join_7 (by decide) rfl (fun (c7 : 90 ≤ x) => ?_) (fun (c7 : ¬ 90 ≤ x) => ?_)
    · skip
      refine o_iload_n dX0_join_35 rfl rfl (by rfl) ?_
      exact o_iret hq dX0_join_36 (jn_no (fun b e h2 h3 h4 h5 => absurd (nI_dec2 (b := 90) (e ▸ c7) (by omega) (by decide)) (by omega)))
    · skip
      obtain ⟨b, eb, -, hb⟩ := inB_nI (l := 0) (m := 89) (by decide) (by decide) (in_89 c1 c7)
      refine o_iload_n dX0_join_10 rfl rfl (by rfl) ?_
      refine o_bipush (v := 90) dX0_join_11 rfl (by decide) ?_
      refine o_icmp_ge (tgt := 35) dX0_join_13 (by decide) rfl (fun (c13 : 90 ≤ (nI c)) => ?_) (fun (c13 : ¬ 90 ≤ (nI c)) => ?_)
      · skip
        refine o_iload_n dX0_join_35 rfl rfl (by rfl) ?_
        exact o_iret hq dX0_join_36 (jn_no (fun b e h2 h3 h4 h5 => absurd (nI_dec2 (b := 90) c13 (by omega) (by decide)) (by omega)))
      · skip
        have hc := nI_dec (b := 90) c13 (by omega) (by decide)
        refine o_aload_n dX0_join_16 rfl rfl (by rfl) ?_
        refine o_getC (q := 57) cl_X0_13 dX0_join_17 rfl (by decide) (by rfl) (by rfl) ?_
        refine o_iload_n dX0_join_20 rfl rfl (by rfl) ?_
        refine o_zald dX0_join_21 rfl (by decide) (by rfl) (by rfl) (by rw [eb]; exact vp_in_nI (by omega) (by decide)) ?_
        refine o_if_ne (tgt := 35) dX0_join_22 (by decide) rfl (fun (c22 : ¬ (mu 57 x.toNatClampNeg) = 0) => ?_) (fun (c22 : (mu 57 x.toNatClampNeg) = 0) => ?_)
        · skip
          refine o_iload_n dX0_join_35 rfl rfl (by rfl) ?_
          exact o_iret hq dX0_join_36 (jn_no (fun b e h2 h3 h4 h5 => c22 (by rw [e, nI_clamp (by omega)]; exact h4)))
        · skip
          refine o_aload_n dX0_join_25 rfl rfl (by rfl) ?_
          refine o_getC (q := 56) cl_X0_9 dX0_join_26 rfl (by decide) (by rfl) (by rfl) ?_
          refine o_iload_n dX0_join_29 rfl rfl (by rfl) ?_
          refine o_iald dX0_join_30 rfl (by decide) (by rfl) (by rfl) (by rw [eb]; exact vp_in_nI (by omega) (by decide)) ?_
          refine o_iload_n dX0_join_31 rfl rfl (by rfl) ?_
          refine o_icmp_eq (tgt := 37) dX0_join_32 (by decide) rfl (fun (c32 : (mu 56 x.toNatClampNeg) = cup) => ?_) (fun (c32 : ¬ (mu 56 x.toNatClampNeg) = cup) => ?_)
          · skip
            refine o_aload_n dX0_join_37 rfl rfl (by rfl) ?_
            refine o_getC (q := 57) cl_X0_13 dX0_join_38 rfl (by decide) (by rfl) (by rfl) ?_
            refine o_iload_n dX0_join_41 rfl rfl (by rfl) ?_
            refine o_iconst (v := 1) dX0_join_42 rfl (by decide) ?_
            refine o_zast dX0_join_43 rfl (by decide) (by rfl) (by rfl) (by rw [eb]; exact vp_in_nI (by omega) (by decide)) (Or.inr rfl) ?_
            refine o_aload_n dX0_join_44 rfl rfl (by rfl) ?_
            refine o_getC (q := 58) cl_X0_17 dX0_join_45 rfl (by decide) (by rfl) (by rfl) ?_
            refine o_iload_n dX0_join_48 rfl rfl (by rfl) ?_
            refine o_iload_n dX0_join_49 rfl rfl (by rfl) ?_
            refine o_iast dX0_join_50 rfl (by decide) (by rfl) (by rfl) (vp_in_nI hc (by decide)) ?_
            refine o_iload_n dX0_join_51 rfl rfl (by rfl) ?_
            refine o_iconst (v := 1) dX0_join_52 rfl (by decide) ?_
            refine o_iadd dX0_join_53 rfl ?_
            exact o_iret hq dX0_join_54 (Or.inl ⟨b, eb, by omega, hc, by rw [eb, nI_clamp (by omega)] at c22; exact c22, by rw [eb, nI_clamp (by omega)] at c32; exact c32, by rw [eb, nI_clamp (by omega), nI_clamp (by omega)], nI_1 c⟩)
          · skip
            refine o_iload_n dX0_join_35 rfl rfl (by rfl) ?_
            exact o_iret hq dX0_join_36 (jn_no (fun b e h2 h3 h4 h5 => c32 (by rw [e, nI_clamp (by omega)]; exact h5)))
set_option maxHeartbeats 4000000 in
set_option maxRecDepth 100000 in
theorem c_X0_cellFrom (mu : Mu) (cup : Int32) (l : Nat → Nat) (p : Nat) (hp : p < 90) (hl : Lab (fun j => FB (mu 56) cup j = true) l) (hs0 : ∀ j, j < 90 → mu 57 j = if snB (FB (mu 56) cup) l p j = true then 1 else 0) : Con yX0_cellFrom cX0_cellFrom 7 (some .int) 1 [vC 55, vI (nI p), vI cup] mu (fun r mu2 => r = nI (sz (FB (mu 56) cup) l p) ∧ (∀ q, q ≠ 57 → q ≠ 58 → mu2 q = mu q) ∧ ∀ j, j < 90 → mu2 57 j = if snB (FB (mu 56) cup) l (p + 1) j = true then 1 else 0) := by
  refine con_of (own := RX0) (by decide) rfl (Nat.le_of_ble_eq_true rfl) (fun X g hq => ?_)
  show WA X g RX0 7 cX0_cellFrom 0 [(0, vC 55), (1, vI (nI p)), (2, vI cup)] [] mu
  refine o_aload_n dX0_cellFrom_0 rfl rfl (by rfl) ?_
  refine o_iload_n dX0_cellFrom_1 rfl rfl (by rfl) ?_
  refine o_iload_n dX0_cellFrom_2 rfl rfl (by rfl) ?_
  refine o_iconst (v := 0) dX0_cellFrom_3 rfl (by decide) ?_
  refine o_callV cs_X0_join cv_X0_49 (c_X0_join mu (nI p) cup 0 (by decide)) hq.2.2.2 (Nat.le_of_ble_eq_true rfl) dX0_cellFrom_4 rfl (by decide) (by rfl) (by rfl) (by rfl) rfl rfl (Nat.le_of_ble_eq_true rfl) (fun rJ0 mJ0 hJ0 => ?_)
  obtain ⟨S0, c0, er0, hI0, hp0⟩ := BI.begin rfl hl hp hs0 hJ0
  subst er0
  have cl0 : c0 ≤ 90 := by rw [hI0.2.1]; exact cN_le _ _
  refine o_istore_n (L' := [(0, vC 55), (1, vI (nI p)), (2, vI cup), (3, vI (nI c0))]) dX0_cellFrom_7 rfl rfl (by decide) (by rfl) (by rfl) ?_
  refine o_iconst (v := 0) dX0_cellFrom_8 rfl (by decide) ?_
  refine o_istore (L' := [(0, vC 55), (1, vI (nI p)), (2, vI cup), (3, vI (nI c0)), (4, vI 0)]) dX0_cellFrom_9 rfl (by decide) (by rfl) (by rfl) ?_
  have LP11 : ∀ (nLP11 : Nat) (i c : Nat) (S : Nat → Bool) (m : Mu) , (i ≤ c) → (c ≤ 90) → (BI mu m (FB (mu 56) cup) l p S c i) → (S p = true ∨ (c = 0 ∧ ¬ (FB (mu 56) cup p = true ∧ l p = p))) → (90 < i + nLP11) → WA X g RX0 7 cX0_cellFrom 11 [(0, vC 55), (1, vI (nI p)), (2, vI cup), (3, vI (nI c)), (4, vI (nI i))] [] m := by
    intro nLP11
    induction nLP11 with
    | zero =>
      intro i c S m hi cl hI hpp hm
      exact absurd hm (by omega)
    | succ nLP11 ihLP11 =>
      intro i c S m hi cl hI hpp hm
      refine o_iload dX0_cellFrom_11 rfl (by rfl) ?_
      refine o_iload_n dX0_cellFrom_13 rfl rfl (by rfl) ?_
      refine o_icmp_ge (tgt := 112) dX0_cellFrom_14 (by decide) rfl (fun (c14 : (nI c) ≤ (nI i)) => ?_) (fun (c14 : ¬ (nI c) ≤ (nI i)) => ?_)
      · skip
        have hci := nI_dec2 c14 (by omega) (by omega)
        have hF := hI.fin hl hci hpp
        refine o_iload_n dX0_cellFrom_112 rfl rfl (by rfl) ?_
        exact o_iret hq dX0_cellFrom_113 ⟨by rw [hF.1], hF.2.1, hF.2.2⟩
      · skip
        have hci := nI_dec c14 (by omega) (by omega)
        refine o_iload dX0_cellFrom_17 rfl (by rfl) ?_
        refine o_bipush (v := 90) dX0_cellFrom_19 rfl (by decide) ?_
        refine o_icmp_ge (tgt := 112) dX0_cellFrom_21 (by decide) rfl (fun (c21 : 90 ≤ (nI i)) => ?_) (fun (c21 : ¬ 90 ≤ (nI i)) => ?_)
        · skip
          exact absurd (nI_dec2 (b := 90) c21 (by omega) (by decide)) (by omega)
        · skip
          refine o_aload_n dX0_cellFrom_24 rfl rfl (by rfl) ?_
          refine o_getC (q := 58) cl_X0_17 dX0_cellFrom_25 rfl (by decide) (by rfl) (by rfl) ?_
          refine o_iload dX0_cellFrom_28 rfl (by rfl) ?_
          refine o_iald dX0_cellFrom_30 rfl (by decide) (by rfl) (by rfl) (vp_in_nI (by omega) (by decide)) ?_
          rw [nI_clamp (show i < 2 ^ 31 by omega)]
          obtain ⟨a, hSa, ea⟩ := hI.2.2.2.2.2.1 i hci
          obtain ⟨hBa, hla⟩ := hI.2.2.2.1 a hSa
          have ha9 := (FB_t hBa).1
          rw [ea]
          refine o_istore (L' := [(0, vC 55), (1, vI (nI p)), (2, vI cup), (3, vI (nI c)), (4, vI (nI i)), (5, vI (nI a))]) dX0_cellFrom_31 rfl (by decide) (by rfl) (by rfl) ?_
          refine o_iload dX0_cellFrom_33 rfl (by rfl) ?_
          refine o_callS cs_X0_vOf ct_X0_24 (c_X0_vOf _ a ha9) hq.2.2.2 (Nat.le_of_ble_eq_true rfl) dX0_cellFrom_35 rfl rfl rfl (Nat.le_of_ble_eq_true rfl) (fun rv mv hv => ?_)
          obtain ⟨em, hv⟩ := hv
          rw [em]
          subst hv
          refine o_istore (L' := [(0, vC 55), (1, vI (nI p)), (2, vI cup), (3, vI (nI c)), (4, vI (nI i)), (5, vI (nI a)), (6, vI (gV a))]) dX0_cellFrom_38 rfl (by decide) (by rfl) (by rfl) ?_
          refine o_iload dX0_cellFrom_40 rfl (by rfl) ?_
          refine o_if_le (tgt := 58) dX0_cellFrom_42 (by decide) rfl (fun (c42 : (gV a) ≤ 0) => ?_) (fun (c42 : ¬ (gV a) ≤ 0) => ?_)
          · skip
            have q1 : ∀ b, b + 1 = a → 0 < a % 10 → FB (mu 56) cup b = true → S b = true := fun b _ h2 _ => absurd h2 (gV_le.1 c42)
            refine o_iload_n dX0_cellFrom_58 rfl rfl (by rfl) ?_
            refine o_istore_n (L' := [(0, vC 55), (1, vI (nI p)), (2, vI cup), (3, vI (nI c)), (4, vI (nI i)), (5, vI (nI a)), (6, vI (gV a))]) dX0_cellFrom_59 rfl rfl (by decide) (by rfl) (by rfl) ?_
            refine o_iload dX0_cellFrom_60 rfl (by rfl) ?_
            refine o_bipush (v := 9) dX0_cellFrom_62 rfl (by decide) ?_
            refine o_icmp_ge (tgt := 80) dX0_cellFrom_64 (by decide) rfl (fun (c64 : 9 ≤ (gV a)) => ?_) (fun (c64 : ¬ 9 ≤ (gV a)) => ?_)
            · skip
              have q2 : ∀ b, b = a + 1 → a % 10 < 9 → FB (mu 56) cup b = true → S b = true := fun b _ h2 _ => absurd h2 (gV_le.2.2.1 c64)
              refine o_iload_n dX0_cellFrom_80 rfl rfl (by rfl) ?_
              refine o_istore_n (L' := [(0, vC 55), (1, vI (nI p)), (2, vI cup), (3, vI (nI c)), (4, vI (nI i)), (5, vI (nI a)), (6, vI (gV a))]) dX0_cellFrom_81 rfl rfl (by decide) (by rfl) (by rfl) ?_
              refine o_aload_n dX0_cellFrom_82 rfl rfl (by rfl) ?_
              refine o_iload dX0_cellFrom_83 rfl (by rfl) ?_
              refine o_bipush (v := 10) dX0_cellFrom_85 rfl (by decide) ?_
              refine o_isub dX0_cellFrom_87 rfl ?_
              refine o_iload_n dX0_cellFrom_88 rfl rfl (by rfl) ?_
              refine o_iload_n dX0_cellFrom_89 rfl rfl (by rfl) ?_
              refine o_callV cs_X0_join cv_X0_49 (c_X0_join m (nI a - 10) cup c cl) hq.2.2.2 (Nat.le_of_ble_eq_true rfl) dX0_cellFrom_90 rfl (by decide) (by rfl) (by rfl) (by rfl) rfl rfl (Nat.le_of_ble_eq_true rfl) (fun rJ3 mJ3 hJ3 => ?_)
              obtain ⟨S3, k3, er3, hI3, hs3, hn3, hk3, ht3⟩ := hI.join rfl (by omega) hJ3 (fun b e h2 h3 => (hl.2 a b hBa h3 (Or.inr (Or.inr (Or.inr (nI_m10 e ha9 (by omega)))))).symm.trans hla)
              subst er3
              have ea3 : mJ3 58 i = nI a := (ht3 i (by omega)).trans ea
              have cl3 : k3 ≤ 90 := by rw [hI3.2.1]; exact cN_le _ _
              have q1 := fun b e h2 h3 => hs3 b (q1 b e h2 h3)
              have q2 := fun b e h2 h3 => hs3 b (q2 b e h2 h3)
              have q3 : ∀ b, b + 10 = a → FB (mu 56) cup b = true → S3 b = true := fun b e h3 => hn3 b (by rw [← e, ← nI_add]; exact add_sub10 _) (FB_t h3).1 h3
              refine o_istore_n (L' := [(0, vC 55), (1, vI (nI p)), (2, vI cup), (3, vI (nI k3)), (4, vI (nI i)), (5, vI (nI a)), (6, vI (gV a))]) dX0_cellFrom_93 rfl rfl (by decide) (by rfl) (by rfl) ?_
              refine o_aload_n dX0_cellFrom_94 rfl rfl (by rfl) ?_
              refine o_iload dX0_cellFrom_95 rfl (by rfl) ?_
              refine o_bipush (v := 10) dX0_cellFrom_97 rfl (by decide) ?_
              refine o_iadd dX0_cellFrom_99 rfl ?_
              refine o_iload_n dX0_cellFrom_100 rfl rfl (by rfl) ?_
              refine o_iload_n dX0_cellFrom_101 rfl rfl (by rfl) ?_
              refine o_callV cs_X0_join cv_X0_49 (c_X0_join mJ3 (nI a + 10) cup k3 cl3) hq.2.2.2 (Nat.le_of_ble_eq_true rfl) dX0_cellFrom_102 rfl (by decide) (by rfl) (by rfl) (by rfl) rfl rfl (Nat.le_of_ble_eq_true rfl) (fun rJ4 mJ4 hJ4 => ?_)
              obtain ⟨S4, k4, er4, hI4, hs4, hn4, hk4, ht4⟩ := hI3.join rfl (by omega) hJ4 (fun b e h2 h3 => (hl.2 a b hBa h3 (Or.inr (Or.inr (Or.inl (((nI_eq (by omega) (by omega)).mp ((nI_add a 10).symm.trans e)).symm))))).symm.trans hla)
              subst er4
              have ea4 : mJ4 58 i = nI a := (ht4 i (by omega)).trans ea3
              have cl4 : k4 ≤ 90 := by rw [hI4.2.1]; exact cN_le _ _
              have q1 := fun b e h2 h3 => hs4 b (q1 b e h2 h3)
              have q2 := fun b e h2 h3 => hs4 b (q2 b e h2 h3)
              have q3 := fun b e h3 => hs4 b (q3 b e h3)
              have q4 : ∀ b, b = a + 10 → FB (mu 56) cup b = true → S4 b = true := fun b e h3 => hn4 b (by rw [e, ← nI_add]; rfl) (FB_t h3).1 h3
              refine o_istore_n (L' := [(0, vC 55), (1, vI (nI p)), (2, vI cup), (3, vI (nI k4)), (4, vI (nI i)), (5, vI (nI a)), (6, vI (gV a))]) dX0_cellFrom_105 rfl rfl (by decide) (by rfl) (by rfl) ?_
              refine o_iinc (v := nI (i + 1)) (L' := [(0, vC 55), (1, vI (nI p)), (2, vI cup), (3, vI (nI k4)), (4, vI (nI (i + 1))), (5, vI (nI a)), (6, vI (gV a))]) dX0_cellFrom_106 rfl (by rfl) (by exact nI_1 i) (by decide) (by rfl) (by rfl) ?_
              refine o_goto (tgt := 11) dX0_cellFrom_109 (by decide) ?_
              refine o_pick (L' := [(0, vC 55), (1, vI (nI p)), (2, vI cup), (3, vI (nI k4)), (4, vI (nI (i + 1)))]) [0, 1, 2, 3, 4] (by rfl) ?_
              exact ihLP11 (i + 1) k4 S4 _ (by omega) cl4 (hI4.next ea4 ha9 (fun j h => (FB_t h).1) (fun b hb h3 => by rcases hb with ⟨e, e2⟩ | ⟨e, e2⟩ | e | e; exact q2 b e e2 h3; exact q1 b e e2 h3; exact q4 b e h3; exact q3 b e h3)) (hpp.elim (fun h9 => Or.inl (hs4 p (hs3 p ((id h9))))) (fun h9 => absurd h9.1 (by omega))) (by omega)
            · skip
              have hv2 := gV_le.2.2.2 c64
              refine o_aload_n dX0_cellFrom_67 rfl rfl (by rfl) ?_
              refine o_iload dX0_cellFrom_68 rfl (by rfl) ?_
              refine o_iconst (v := 1) dX0_cellFrom_70 rfl (by decide) ?_
              refine o_iadd dX0_cellFrom_71 rfl ?_
              refine o_iload_n dX0_cellFrom_72 rfl rfl (by rfl) ?_
              refine o_iload_n dX0_cellFrom_73 rfl rfl (by rfl) ?_
              refine o_callV cs_X0_join cv_X0_49 (c_X0_join m (nI a + 1) cup c cl) hq.2.2.2 (Nat.le_of_ble_eq_true rfl) dX0_cellFrom_74 rfl (by decide) (by rfl) (by rfl) (by rfl) rfl rfl (Nat.le_of_ble_eq_true rfl) (fun rJ2 mJ2 hJ2 => ?_)
              obtain ⟨S2, k2, er2, hI2, hs2, hn2, hk2, ht2⟩ := hI.join rfl (by omega) hJ2 (fun b e h2 h3 => (hl.2 a b hBa h3 (Or.inl ⟨((nI_eq (by omega) (by omega)).mp ((nI_1 a).symm.trans e)).symm, hv2⟩)).symm.trans hla)
              subst er2
              have ea2 : mJ2 58 i = nI a := (ht2 i (by omega)).trans ea
              have cl2 : k2 ≤ 90 := by rw [hI2.2.1]; exact cN_le _ _
              have q1 := fun b e h2 h3 => hs2 b (q1 b e h2 h3)
              have q2 : ∀ b, b = a + 1 → a % 10 < 9 → FB (mu 56) cup b = true → S2 b = true := fun b e _ h3 => hn2 b (by rw [e, ← nI_1]) (FB_t h3).1 h3
              refine o_goto (tgt := 81) dX0_cellFrom_77 (by decide) ?_
              refine o_istore_n (L' := [(0, vC 55), (1, vI (nI p)), (2, vI cup), (3, vI (nI k2)), (4, vI (nI i)), (5, vI (nI a)), (6, vI (gV a))]) dX0_cellFrom_81 rfl rfl (by decide) (by rfl) (by rfl) ?_
              refine o_aload_n dX0_cellFrom_82 rfl rfl (by rfl) ?_
              refine o_iload dX0_cellFrom_83 rfl (by rfl) ?_
              refine o_bipush (v := 10) dX0_cellFrom_85 rfl (by decide) ?_
              refine o_isub dX0_cellFrom_87 rfl ?_
              refine o_iload_n dX0_cellFrom_88 rfl rfl (by rfl) ?_
              refine o_iload_n dX0_cellFrom_89 rfl rfl (by rfl) ?_
              refine o_callV cs_X0_join cv_X0_49 (c_X0_join mJ2 (nI a - 10) cup k2 cl2) hq.2.2.2 (Nat.le_of_ble_eq_true rfl) dX0_cellFrom_90 rfl (by decide) (by rfl) (by rfl) (by rfl) rfl rfl (Nat.le_of_ble_eq_true rfl) (fun rJ3 mJ3 hJ3 => ?_)
              obtain ⟨S3, k3, er3, hI3, hs3, hn3, hk3, ht3⟩ := hI2.join rfl (by omega) hJ3 (fun b e h2 h3 => (hl.2 a b hBa h3 (Or.inr (Or.inr (Or.inr (nI_m10 e ha9 (by omega)))))).symm.trans hla)
              subst er3
              have ea3 : mJ3 58 i = nI a := (ht3 i (by omega)).trans ea2
              have cl3 : k3 ≤ 90 := by rw [hI3.2.1]; exact cN_le _ _
              have q1 := fun b e h2 h3 => hs3 b (q1 b e h2 h3)
              have q2 := fun b e h2 h3 => hs3 b (q2 b e h2 h3)
              have q3 : ∀ b, b + 10 = a → FB (mu 56) cup b = true → S3 b = true := fun b e h3 => hn3 b (by rw [← e, ← nI_add]; exact add_sub10 _) (FB_t h3).1 h3
              refine o_istore_n (L' := [(0, vC 55), (1, vI (nI p)), (2, vI cup), (3, vI (nI k3)), (4, vI (nI i)), (5, vI (nI a)), (6, vI (gV a))]) dX0_cellFrom_93 rfl rfl (by decide) (by rfl) (by rfl) ?_
              refine o_aload_n dX0_cellFrom_94 rfl rfl (by rfl) ?_
              refine o_iload dX0_cellFrom_95 rfl (by rfl) ?_
              refine o_bipush (v := 10) dX0_cellFrom_97 rfl (by decide) ?_
              refine o_iadd dX0_cellFrom_99 rfl ?_
              refine o_iload_n dX0_cellFrom_100 rfl rfl (by rfl) ?_
              refine o_iload_n dX0_cellFrom_101 rfl rfl (by rfl) ?_
              refine o_callV cs_X0_join cv_X0_49 (c_X0_join mJ3 (nI a + 10) cup k3 cl3) hq.2.2.2 (Nat.le_of_ble_eq_true rfl) dX0_cellFrom_102 rfl (by decide) (by rfl) (by rfl) (by rfl) rfl rfl (Nat.le_of_ble_eq_true rfl) (fun rJ4 mJ4 hJ4 => ?_)
              obtain ⟨S4, k4, er4, hI4, hs4, hn4, hk4, ht4⟩ := hI3.join rfl (by omega) hJ4 (fun b e h2 h3 => (hl.2 a b hBa h3 (Or.inr (Or.inr (Or.inl (((nI_eq (by omega) (by omega)).mp ((nI_add a 10).symm.trans e)).symm))))).symm.trans hla)
              subst er4
              have ea4 : mJ4 58 i = nI a := (ht4 i (by omega)).trans ea3
              have cl4 : k4 ≤ 90 := by rw [hI4.2.1]; exact cN_le _ _
              have q1 := fun b e h2 h3 => hs4 b (q1 b e h2 h3)
              have q2 := fun b e h2 h3 => hs4 b (q2 b e h2 h3)
              have q3 := fun b e h3 => hs4 b (q3 b e h3)
              have q4 : ∀ b, b = a + 10 → FB (mu 56) cup b = true → S4 b = true := fun b e h3 => hn4 b (by rw [e, ← nI_add]; rfl) (FB_t h3).1 h3
              refine o_istore_n (L' := [(0, vC 55), (1, vI (nI p)), (2, vI cup), (3, vI (nI k4)), (4, vI (nI i)), (5, vI (nI a)), (6, vI (gV a))]) dX0_cellFrom_105 rfl rfl (by decide) (by rfl) (by rfl) ?_
              refine o_iinc (v := nI (i + 1)) (L' := [(0, vC 55), (1, vI (nI p)), (2, vI cup), (3, vI (nI k4)), (4, vI (nI (i + 1))), (5, vI (nI a)), (6, vI (gV a))]) dX0_cellFrom_106 rfl (by rfl) (by exact nI_1 i) (by decide) (by rfl) (by rfl) ?_
              refine o_goto (tgt := 11) dX0_cellFrom_109 (by decide) ?_
              refine o_pick (L' := [(0, vC 55), (1, vI (nI p)), (2, vI cup), (3, vI (nI k4)), (4, vI (nI (i + 1)))]) [0, 1, 2, 3, 4] (by rfl) ?_
              exact ihLP11 (i + 1) k4 S4 _ (by omega) cl4 (hI4.next ea4 ha9 (fun j h => (FB_t h).1) (fun b hb h3 => by rcases hb with ⟨e, e2⟩ | ⟨e, e2⟩ | e | e; exact q2 b e e2 h3; exact q1 b e e2 h3; exact q4 b e h3; exact q3 b e h3)) (hpp.elim (fun h9 => Or.inl (hs4 p (hs3 p (hs2 p (id h9))))) (fun h9 => absurd h9.1 (by omega))) (by omega)
          · skip
            have hv1 := gV_le.2.1 c42
            refine o_aload_n dX0_cellFrom_45 rfl rfl (by rfl) ?_
            refine o_iload dX0_cellFrom_46 rfl (by rfl) ?_
            refine o_iconst (v := 1) dX0_cellFrom_48 rfl (by decide) ?_
            refine o_isub dX0_cellFrom_49 rfl ?_
            refine o_iload_n dX0_cellFrom_50 rfl rfl (by rfl) ?_
            refine o_iload_n dX0_cellFrom_51 rfl rfl (by rfl) ?_
            refine o_callV cs_X0_join cv_X0_49 (c_X0_join m (nI a - 1) cup c cl) hq.2.2.2 (Nat.le_of_ble_eq_true rfl) dX0_cellFrom_52 rfl (by decide) (by rfl) (by rfl) (by rfl) rfl rfl (Nat.le_of_ble_eq_true rfl) (fun rJ1 mJ1 hJ1 => ?_)
            obtain ⟨S1, k1, er1, hI1, hs1, hn1, hk1, ht1⟩ := hI.join rfl (by omega) hJ1 (fun b e h2 h3 => (hl.2 a b hBa h3 (Or.inr (Or.inl ⟨by have := nI_m1 e ha9 (by omega); omega, hv1⟩))).symm.trans hla)
            subst er1
            have ea1 : mJ1 58 i = nI a := (ht1 i (by omega)).trans ea
            have cl1 : k1 ≤ 90 := by rw [hI1.2.1]; exact cN_le _ _
            have q1 : ∀ b, b + 1 = a → 0 < a % 10 → FB (mu 56) cup b = true → S1 b = true := fun b e _ h3 => hn1 b (by rw [← e, ← nI_1]; exact add_sub1 _) (FB_t h3).1 h3
            refine o_goto (tgt := 59) dX0_cellFrom_55 (by decide) ?_
            refine o_istore_n (L' := [(0, vC 55), (1, vI (nI p)), (2, vI cup), (3, vI (nI k1)), (4, vI (nI i)), (5, vI (nI a)), (6, vI (gV a))]) dX0_cellFrom_59 rfl rfl (by decide) (by rfl) (by rfl) ?_
            refine o_iload dX0_cellFrom_60 rfl (by rfl) ?_
            refine o_bipush (v := 9) dX0_cellFrom_62 rfl (by decide) ?_
            refine o_icmp_ge (tgt := 80) dX0_cellFrom_64 (by decide) rfl (fun (c64 : 9 ≤ (gV a)) => ?_) (fun (c64 : ¬ 9 ≤ (gV a)) => ?_)
            · skip
              have q2 : ∀ b, b = a + 1 → a % 10 < 9 → FB (mu 56) cup b = true → S1 b = true := fun b _ h2 _ => absurd h2 (gV_le.2.2.1 c64)
              refine o_iload_n dX0_cellFrom_80 rfl rfl (by rfl) ?_
              refine o_istore_n (L' := [(0, vC 55), (1, vI (nI p)), (2, vI cup), (3, vI (nI k1)), (4, vI (nI i)), (5, vI (nI a)), (6, vI (gV a))]) dX0_cellFrom_81 rfl rfl (by decide) (by rfl) (by rfl) ?_
              refine o_aload_n dX0_cellFrom_82 rfl rfl (by rfl) ?_
              refine o_iload dX0_cellFrom_83 rfl (by rfl) ?_
              refine o_bipush (v := 10) dX0_cellFrom_85 rfl (by decide) ?_
              refine o_isub dX0_cellFrom_87 rfl ?_
              refine o_iload_n dX0_cellFrom_88 rfl rfl (by rfl) ?_
              refine o_iload_n dX0_cellFrom_89 rfl rfl (by rfl) ?_
              refine o_callV cs_X0_join cv_X0_49 (c_X0_join mJ1 (nI a - 10) cup k1 cl1) hq.2.2.2 (Nat.le_of_ble_eq_true rfl) dX0_cellFrom_90 rfl (by decide) (by rfl) (by rfl) (by rfl) rfl rfl (Nat.le_of_ble_eq_true rfl) (fun rJ3 mJ3 hJ3 => ?_)
              obtain ⟨S3, k3, er3, hI3, hs3, hn3, hk3, ht3⟩ := hI1.join rfl (by omega) hJ3 (fun b e h2 h3 => (hl.2 a b hBa h3 (Or.inr (Or.inr (Or.inr (nI_m10 e ha9 (by omega)))))).symm.trans hla)
              subst er3
              have ea3 : mJ3 58 i = nI a := (ht3 i (by omega)).trans ea1
              have cl3 : k3 ≤ 90 := by rw [hI3.2.1]; exact cN_le _ _
              have q1 := fun b e h2 h3 => hs3 b (q1 b e h2 h3)
              have q2 := fun b e h2 h3 => hs3 b (q2 b e h2 h3)
              have q3 : ∀ b, b + 10 = a → FB (mu 56) cup b = true → S3 b = true := fun b e h3 => hn3 b (by rw [← e, ← nI_add]; exact add_sub10 _) (FB_t h3).1 h3
              refine o_istore_n (L' := [(0, vC 55), (1, vI (nI p)), (2, vI cup), (3, vI (nI k3)), (4, vI (nI i)), (5, vI (nI a)), (6, vI (gV a))]) dX0_cellFrom_93 rfl rfl (by decide) (by rfl) (by rfl) ?_
              refine o_aload_n dX0_cellFrom_94 rfl rfl (by rfl) ?_
              refine o_iload dX0_cellFrom_95 rfl (by rfl) ?_
              refine o_bipush (v := 10) dX0_cellFrom_97 rfl (by decide) ?_
              refine o_iadd dX0_cellFrom_99 rfl ?_
              refine o_iload_n dX0_cellFrom_100 rfl rfl (by rfl) ?_
              refine o_iload_n dX0_cellFrom_101 rfl rfl (by rfl) ?_
              refine o_callV cs_X0_join cv_X0_49 (c_X0_join mJ3 (nI a + 10) cup k3 cl3) hq.2.2.2 (Nat.le_of_ble_eq_true rfl) dX0_cellFrom_102 rfl (by decide) (by rfl) (by rfl) (by rfl) rfl rfl (Nat.le_of_ble_eq_true rfl) (fun rJ4 mJ4 hJ4 => ?_)
              obtain ⟨S4, k4, er4, hI4, hs4, hn4, hk4, ht4⟩ := hI3.join rfl (by omega) hJ4 (fun b e h2 h3 => (hl.2 a b hBa h3 (Or.inr (Or.inr (Or.inl (((nI_eq (by omega) (by omega)).mp ((nI_add a 10).symm.trans e)).symm))))).symm.trans hla)
              subst er4
              have ea4 : mJ4 58 i = nI a := (ht4 i (by omega)).trans ea3
              have cl4 : k4 ≤ 90 := by rw [hI4.2.1]; exact cN_le _ _
              have q1 := fun b e h2 h3 => hs4 b (q1 b e h2 h3)
              have q2 := fun b e h2 h3 => hs4 b (q2 b e h2 h3)
              have q3 := fun b e h3 => hs4 b (q3 b e h3)
              have q4 : ∀ b, b = a + 10 → FB (mu 56) cup b = true → S4 b = true := fun b e h3 => hn4 b (by rw [e, ← nI_add]; rfl) (FB_t h3).1 h3
              refine o_istore_n (L' := [(0, vC 55), (1, vI (nI p)), (2, vI cup), (3, vI (nI k4)), (4, vI (nI i)), (5, vI (nI a)), (6, vI (gV a))]) dX0_cellFrom_105 rfl rfl (by decide) (by rfl) (by rfl) ?_
              refine o_iinc (v := nI (i + 1)) (L' := [(0, vC 55), (1, vI (nI p)), (2, vI cup), (3, vI (nI k4)), (4, vI (nI (i + 1))), (5, vI (nI a)), (6, vI (gV a))]) dX0_cellFrom_106 rfl (by rfl) (by exact nI_1 i) (by decide) (by rfl) (by rfl) ?_
              refine o_goto (tgt := 11) dX0_cellFrom_109 (by decide) ?_
              refine o_pick (L' := [(0, vC 55), (1, vI (nI p)), (2, vI cup), (3, vI (nI k4)), (4, vI (nI (i + 1)))]) [0, 1, 2, 3, 4] (by rfl) ?_
              exact ihLP11 (i + 1) k4 S4 _ (by omega) cl4 (hI4.next ea4 ha9 (fun j h => (FB_t h).1) (fun b hb h3 => by rcases hb with ⟨e, e2⟩ | ⟨e, e2⟩ | e | e; exact q2 b e e2 h3; exact q1 b e e2 h3; exact q4 b e h3; exact q3 b e h3)) (hpp.elim (fun h9 => Or.inl (hs4 p (hs3 p ((hs1 p h9))))) (fun h9 => absurd h9.1 (by omega))) (by omega)
            · skip
              have hv2 := gV_le.2.2.2 c64
              refine o_aload_n dX0_cellFrom_67 rfl rfl (by rfl) ?_
              refine o_iload dX0_cellFrom_68 rfl (by rfl) ?_
              refine o_iconst (v := 1) dX0_cellFrom_70 rfl (by decide) ?_
              refine o_iadd dX0_cellFrom_71 rfl ?_
              refine o_iload_n dX0_cellFrom_72 rfl rfl (by rfl) ?_
              refine o_iload_n dX0_cellFrom_73 rfl rfl (by rfl) ?_
              refine o_callV cs_X0_join cv_X0_49 (c_X0_join mJ1 (nI a + 1) cup k1 cl1) hq.2.2.2 (Nat.le_of_ble_eq_true rfl) dX0_cellFrom_74 rfl (by decide) (by rfl) (by rfl) (by rfl) rfl rfl (Nat.le_of_ble_eq_true rfl) (fun rJ2 mJ2 hJ2 => ?_)
              obtain ⟨S2, k2, er2, hI2, hs2, hn2, hk2, ht2⟩ := hI1.join rfl (by omega) hJ2 (fun b e h2 h3 => (hl.2 a b hBa h3 (Or.inl ⟨((nI_eq (by omega) (by omega)).mp ((nI_1 a).symm.trans e)).symm, hv2⟩)).symm.trans hla)
              subst er2
              have ea2 : mJ2 58 i = nI a := (ht2 i (by omega)).trans ea1
              have cl2 : k2 ≤ 90 := by rw [hI2.2.1]; exact cN_le _ _
              have q1 := fun b e h2 h3 => hs2 b (q1 b e h2 h3)
              have q2 : ∀ b, b = a + 1 → a % 10 < 9 → FB (mu 56) cup b = true → S2 b = true := fun b e _ h3 => hn2 b (by rw [e, ← nI_1]) (FB_t h3).1 h3
              refine o_goto (tgt := 81) dX0_cellFrom_77 (by decide) ?_
              refine o_istore_n (L' := [(0, vC 55), (1, vI (nI p)), (2, vI cup), (3, vI (nI k2)), (4, vI (nI i)), (5, vI (nI a)), (6, vI (gV a))]) dX0_cellFrom_81 rfl rfl (by decide) (by rfl) (by rfl) ?_
              refine o_aload_n dX0_cellFrom_82 rfl rfl (by rfl) ?_
              refine o_iload dX0_cellFrom_83 rfl (by rfl) ?_
              refine o_bipush (v := 10) dX0_cellFrom_85 rfl (by decide) ?_
              refine o_isub dX0_cellFrom_87 rfl ?_
              refine o_iload_n dX0_cellFrom_88 rfl rfl (by rfl) ?_
              refine o_iload_n dX0_cellFrom_89 rfl rfl (by rfl) ?_
              refine o_callV cs_X0_join cv_X0_49 (c_X0_join mJ2 (nI a - 10) cup k2 cl2) hq.2.2.2 (Nat.le_of_ble_eq_true rfl) dX0_cellFrom_90 rfl (by decide) (by rfl) (by rfl) (by rfl) rfl rfl (Nat.le_of_ble_eq_true rfl) (fun rJ3 mJ3 hJ3 => ?_)
              obtain ⟨S3, k3, er3, hI3, hs3, hn3, hk3, ht3⟩ := hI2.join rfl (by omega) hJ3 (fun b e h2 h3 => (hl.2 a b hBa h3 (Or.inr (Or.inr (Or.inr (nI_m10 e ha9 (by omega)))))).symm.trans hla)
              subst er3
              have ea3 : mJ3 58 i = nI a := (ht3 i (by omega)).trans ea2
              have cl3 : k3 ≤ 90 := by rw [hI3.2.1]; exact cN_le _ _
              have q1 := fun b e h2 h3 => hs3 b (q1 b e h2 h3)
              have q2 := fun b e h2 h3 => hs3 b (q2 b e h2 h3)
              have q3 : ∀ b, b + 10 = a → FB (mu 56) cup b = true → S3 b = true := fun b e h3 => hn3 b (by rw [← e, ← nI_add]; exact add_sub10 _) (FB_t h3).1 h3
              refine o_istore_n (L' := [(0, vC 55), (1, vI (nI p)), (2, vI cup), (3, vI (nI k3)), (4, vI (nI i)), (5, vI (nI a)), (6, vI (gV a))]) dX0_cellFrom_93 rfl rfl (by decide) (by rfl) (by rfl) ?_
              refine o_aload_n dX0_cellFrom_94 rfl rfl (by rfl) ?_
              refine o_iload dX0_cellFrom_95 rfl (by rfl) ?_
              refine o_bipush (v := 10) dX0_cellFrom_97 rfl (by decide) ?_
              refine o_iadd dX0_cellFrom_99 rfl ?_
              refine o_iload_n dX0_cellFrom_100 rfl rfl (by rfl) ?_
              refine o_iload_n dX0_cellFrom_101 rfl rfl (by rfl) ?_
              refine o_callV cs_X0_join cv_X0_49 (c_X0_join mJ3 (nI a + 10) cup k3 cl3) hq.2.2.2 (Nat.le_of_ble_eq_true rfl) dX0_cellFrom_102 rfl (by decide) (by rfl) (by rfl) (by rfl) rfl rfl (Nat.le_of_ble_eq_true rfl) (fun rJ4 mJ4 hJ4 => ?_)
              obtain ⟨S4, k4, er4, hI4, hs4, hn4, hk4, ht4⟩ := hI3.join rfl (by omega) hJ4 (fun b e h2 h3 => (hl.2 a b hBa h3 (Or.inr (Or.inr (Or.inl (((nI_eq (by omega) (by omega)).mp ((nI_add a 10).symm.trans e)).symm))))).symm.trans hla)
              subst er4
              have ea4 : mJ4 58 i = nI a := (ht4 i (by omega)).trans ea3
              have cl4 : k4 ≤ 90 := by rw [hI4.2.1]; exact cN_le _ _
              have q1 := fun b e h2 h3 => hs4 b (q1 b e h2 h3)
              have q2 := fun b e h2 h3 => hs4 b (q2 b e h2 h3)
              have q3 := fun b e h3 => hs4 b (q3 b e h3)
              have q4 : ∀ b, b = a + 10 → FB (mu 56) cup b = true → S4 b = true := fun b e h3 => hn4 b (by rw [e, ← nI_add]; rfl) (FB_t h3).1 h3
              refine o_istore_n (L' := [(0, vC 55), (1, vI (nI p)), (2, vI cup), (3, vI (nI k4)), (4, vI (nI i)), (5, vI (nI a)), (6, vI (gV a))]) dX0_cellFrom_105 rfl rfl (by decide) (by rfl) (by rfl) ?_
              refine o_iinc (v := nI (i + 1)) (L' := [(0, vC 55), (1, vI (nI p)), (2, vI cup), (3, vI (nI k4)), (4, vI (nI (i + 1))), (5, vI (nI a)), (6, vI (gV a))]) dX0_cellFrom_106 rfl (by rfl) (by exact nI_1 i) (by decide) (by rfl) (by rfl) ?_
              refine o_goto (tgt := 11) dX0_cellFrom_109 (by decide) ?_
              refine o_pick (L' := [(0, vC 55), (1, vI (nI p)), (2, vI cup), (3, vI (nI k4)), (4, vI (nI (i + 1)))]) [0, 1, 2, 3, 4] (by rfl) ?_
              exact ihLP11 (i + 1) k4 S4 _ (by omega) cl4 (hI4.next ea4 ha9 (fun j h => (FB_t h).1) (fun b hb h3 => by rcases hb with ⟨e, e2⟩ | ⟨e, e2⟩ | e | e; exact q2 b e e2 h3; exact q1 b e e2 h3; exact q4 b e h3; exact q3 b e h3)) (hpp.elim (fun h9 => Or.inl (hs4 p (hs3 p (hs2 p (hs1 p h9))))) (fun h9 => absurd h9.1 (by omega))) (by omega)
  exact LP11 91 0 c0 S0 _ (by omega) cl0 hI0 hp0 (by omega)
