/-! ===== the reference: rings, the middle ===== -/
theorem rg_c1 : ∀ U, U < 9 → ∀ r, r < 7 → ((nI U - nI r < 0 ↔ U < r) ∧ ((9 : Int32) ≤ nI U + nI r ↔ 9 ≤ U + r)) := by decide +kernel
theorem rg_c2 : ∀ V, V < 10 → ∀ r, r < 7 → ((nI V - nI r < 0 ↔ V < r) ∧ ((10 : Int32) ≤ nI V + nI r ↔ 10 ≤ V + r)) := by decide +kernel
theorem rg_ix (A B : Nat) : 10 * nI A + nI B = nI (10 * A + B) := by rw [show (10 : Int32) = nI 10 from rfl, pk_mul, nI_add]
theorem whB_in {f : Vc} {cup : Int32} {u v r : Nat} (h : r ≤ u ∧ u + r < 9 ∧ r ≤ v ∧ v + r < 10) (h2 : ∀ a, a < 2 * r + 1 → ∀ b, b < 2 * r + 1 → f (10 * (u - r + a) + (v - r + b)) = cup) : whB f cup u v r = true := decide_eq_true ⟨h, h2⟩
theorem whB_iff {f g : Vc} {cup : Int32} {u v r : Nat} (h : ∀ x, x < 90 → (f x = cup ↔ g x = cup)) : whB f cup u v r = whB g cup u v r := by
  unfold whB
  congr 1
  apply propext
  constructor
  · rintro ⟨a1, a2⟩
    exact ⟨a1, fun a ha b hb => (h _ (by omega)).mp (a2 a ha b hb)⟩
  · rintro ⟨a1, a2⟩
    exact ⟨a1, fun a ha b hb => (h _ (by omega)).mpr (a2 a ha b hb)⟩
theorem whB_0 {f : Vc} {cup : Int32} {k : Nat} (hk : k < 90) : whB f cup (k / 10) (k % 10) 0 = true ↔ f k = cup := by
  have e : 10 * (k / 10 - 0 + 0) + (k % 10 - 0 + 0) = k := by omega
  constructor
  · intro h
    have := (of_decide_eq_true h).2 0 (by omega) 0 (by omega)
    rw [e] at this
    exact this
  · intro h
    refine whB_in (by omega) (fun a ha b hb => ?_)
    rw [show a = 0 by omega, show b = 0 by omega, e]
    exact h
theorem whB_4 {f : Vc} {cup : Int32} {u v r : Nat} (h : whB f cup u v r = true) : r ≤ 4 := by
  have := (of_decide_eq_true h).1
  omega
theorem rn_of {W : Nat → Bool} {t : Nat} (h1 : 1 ≤ t) (h5 : t ≤ 5) (h : ∀ s, 1 ≤ s → s < t → W s = true) (hn : ¬ W t = true) : rnF W 4 0 = t - 1 := by
  have key : ∀ s, s < t → rnF W (4 - s) s = t - 1 := by
    intro s
    generalize e : t - 1 - s = d
    revert s
    induction d with
    | zero =>
      intro s e hs
      have es : s = t - 1 := by omega
      subst es
      exact rnF_s (fun _ => by rw [show t - 1 + 1 = t by omega]; exact hn)
    | succ d ih =>
      intro s e hs
      rw [rnF_g (by omega) (h (s + 1) (by omega) (by omega))]
      exact ih (s + 1) (by omega) (by omega)
  exact key 0 (by omega)
theorem mdP_ge (f : Vc) (cup : Int32) (n : Nat) : (-1 : Int32) ≤ (mdP f cup n).2 := by
  rcases mdP_or f cup n with h | ⟨b, h1, h2, -⟩
  · rw [h]; decide
  · rw [h2]
    have : rnK f cup b ≤ 0 + 4 := rnF_le _ 4 0
    rw [i_le, nI_toInt (by omega)]
    have : (-1 : Int32).toInt = -1 := rfl
    omega
theorem md_step {f : Vc} {cup : Int32} {k t : Nat} (hk : k < 90) (h5 : t ≤ 5) (h : ∀ s, s < t → whB f cup (k / 10) (k % 10) s = true) (hn : ¬ whB f cup (k / 10) (k % 10) t = true) : (nI t - 1 ≤ (mdP f cup k).2 → mdP f cup (k + 1) = mdP f cup k) ∧ (¬ nI t - 1 ≤ (mdP f cup k).2 → mdP f cup (k + 1) = (nI k, nI t - 1)) := by
  by_cases e : t = 0
  · subst e
    have hf : ¬ f k = cup := fun q => hn ((whB_0 hk).mpr q)
    have e1 : mdP f cup (k + 1) = mdP f cup k := if_neg (fun q => hf q.1)
    exact ⟨fun _ => e1, fun q => absurd (mdP_ge f cup k) q⟩
  · have hf : f k = cup := (whB_0 hk).mp (h 0 (by omega))
    have er : rnK f cup k = t - 1 := rn_of (by omega) h5 (fun s _ h2 => h s h2) hn
    have et : nI t - 1 = nI (rnK f cup k) := by rw [er]; exact pk_sub (b := 1) (by omega)
    refine ⟨fun q => if_neg (fun w => ?_), fun q => ?_⟩
    · rw [et] at q
      exact absurd q (Int32.not_le.mpr w.2)
    · rw [et] at q ⊢
      exact if_pos ⟨hf, Int32.not_le.mp q⟩
set_option maxHeartbeats 4000000 in
set_option maxRecDepth 100000 in
theorem c_X9_isRing (mu : Mu) (cup : Int32) (U V R : Nat) (hU : U < 9) (hV : V < 10) (hR : R < 7) : Con yX9_isRing cX9_isRing 8 (some .boolean) 0 [vC 94, vI cup, vI (nI U), vI (nI V), vI (nI R)] mu (fun x mu2 => mu2 = mu ∧ x = if whB (mu 104) cup U V R = true then 1 else 0) := by
  refine con_of (own := RX9) (by decide) rfl (Nat.le_of_ble_eq_true rfl) (fun X g hq => ?_)
  show WA X g RX9 8 cX9_isRing 0 [(0, vC 94), (1, vI cup), (2, vI (nI U)), (3, vI (nI V)), (4, vI (nI R))] [] mu
  refine o_iload_n dX9_isRing_0 rfl rfl (by rfl) ?_
  refine o_iload dX9_isRing_1 rfl (by rfl) ?_
  refine o_isub dX9_isRing_3 rfl ?_
  refine o_if_lt (tgt := 36) dX9_isRing_4 (by decide) rfl (fun (c4 : ((nI U) - (nI R)) < 0) => ?_) (fun (c4 : ¬ ((nI U) - (nI R)) < 0) => ?_)
  · skip
    have hn := (rg_c1 U hU R hR).1.mp c4
    refine o_iconst (v := 0) dX9_isRing_36 rfl (by decide) ?_
    refine o_istore (L' := [(0, vC 94), (1, vI cup), (2, vI (nI U)), (3, vI (nI V)), (4, vI (nI R)), (5, vI 0)]) dX9_isRing_37 rfl (by decide) (by rfl) (by rfl) ?_
    refine o_iload_n dX9_isRing_39 rfl rfl (by rfl) ?_
    refine o_iload dX9_isRing_40 rfl (by rfl) ?_
    refine o_isub dX9_isRing_42 rfl ?_
    refine o_istore (L' := [(0, vC 94), (1, vI cup), (2, vI (nI U)), (3, vI (nI V)), (4, vI (nI R)), (5, vI 0), (6, vI ((nI U) - (nI R)))]) dX9_isRing_43 rfl (by decide) (by rfl) (by rfl) ?_
    refine o_iload dX9_isRing_45 rfl (by rfl) ?_
    refine o_iload_n dX9_isRing_47 rfl rfl (by rfl) ?_
    refine o_iload dX9_isRing_48 rfl (by rfl) ?_
    refine o_iadd dX9_isRing_50 rfl ?_
    refine o_icmp_gt (tgt := 115) dX9_isRing_51 (by decide) rfl (fun (c51 : ((nI U) + (nI R)) < ((nI U) - (nI R))) => ?_) (fun (c51 : ¬ ((nI U) + (nI R)) < ((nI U) - (nI R))) => ?_)
    · skip
      refine o_iload dX9_isRing_115 rfl (by rfl) ?_
      exact o_zret hq dX9_isRing_117 (Or.inl rfl) ⟨rfl, (if_neg (whB_no (by omega))).symm⟩
    · skip
      refine o_iload dX9_isRing_54 rfl (by rfl) ?_
      refine o_if_eq (tgt := 115) dX9_isRing_56 (by decide) rfl (fun (c56 : (0 : Int32) = 0) => ?_) (fun (c56 : ¬ (0 : Int32) = 0) => ?_)
      · skip
        refine o_iload dX9_isRing_115 rfl (by rfl) ?_
        exact o_zret hq dX9_isRing_117 (Or.inl rfl) ⟨rfl, (if_neg (whB_no (by omega))).symm⟩
      · skip
        exact absurd (by decide) c56
  · skip
    have g1 : R ≤ U := Nat.not_lt.mp (fun h => c4 ((rg_c1 U hU R hR).1.mpr h))
    refine o_iload_n dX9_isRing_7 rfl rfl (by rfl) ?_
    refine o_iload dX9_isRing_8 rfl (by rfl) ?_
    refine o_iadd dX9_isRing_10 rfl ?_
    refine o_bipush (v := 9) dX9_isRing_11 rfl (by decide) ?_
    refine o_icmp_ge (tgt := 36) dX9_isRing_13 (by decide) rfl (fun (c13 : 9 ≤ ((nI U) + (nI R))) => ?_) (fun (c13 : ¬ 9 ≤ ((nI U) + (nI R))) => ?_)
    · skip
      have hn := (rg_c1 U hU R hR).2.mp c13
      refine o_iconst (v := 0) dX9_isRing_36 rfl (by decide) ?_
      refine o_istore (L' := [(0, vC 94), (1, vI cup), (2, vI (nI U)), (3, vI (nI V)), (4, vI (nI R)), (5, vI 0)]) dX9_isRing_37 rfl (by decide) (by rfl) (by rfl) ?_
      refine o_iload_n dX9_isRing_39 rfl rfl (by rfl) ?_
      refine o_iload dX9_isRing_40 rfl (by rfl) ?_
      refine o_isub dX9_isRing_42 rfl ?_
      refine o_istore (L' := [(0, vC 94), (1, vI cup), (2, vI (nI U)), (3, vI (nI V)), (4, vI (nI R)), (5, vI 0), (6, vI ((nI U) - (nI R)))]) dX9_isRing_43 rfl (by decide) (by rfl) (by rfl) ?_
      refine o_iload dX9_isRing_45 rfl (by rfl) ?_
      refine o_iload_n dX9_isRing_47 rfl rfl (by rfl) ?_
      refine o_iload dX9_isRing_48 rfl (by rfl) ?_
      refine o_iadd dX9_isRing_50 rfl ?_
      refine o_icmp_gt (tgt := 115) dX9_isRing_51 (by decide) rfl (fun (c51 : ((nI U) + (nI R)) < ((nI U) - (nI R))) => ?_) (fun (c51 : ¬ ((nI U) + (nI R)) < ((nI U) - (nI R))) => ?_)
      · skip
        refine o_iload dX9_isRing_115 rfl (by rfl) ?_
        exact o_zret hq dX9_isRing_117 (Or.inl rfl) ⟨rfl, (if_neg (whB_no (by omega))).symm⟩
      · skip
        refine o_iload dX9_isRing_54 rfl (by rfl) ?_
        refine o_if_eq (tgt := 115) dX9_isRing_56 (by decide) rfl (fun (c56 : (0 : Int32) = 0) => ?_) (fun (c56 : ¬ (0 : Int32) = 0) => ?_)
        · skip
          refine o_iload dX9_isRing_115 rfl (by rfl) ?_
          exact o_zret hq dX9_isRing_117 (Or.inl rfl) ⟨rfl, (if_neg (whB_no (by omega))).symm⟩
        · skip
          exact absurd (by decide) c56
    · skip
      have g2 : U + R < 9 := Nat.not_le.mp (fun h => c13 ((rg_c1 U hU R hR).2.mpr h))
      refine o_iload_n dX9_isRing_16 rfl rfl (by rfl) ?_
      refine o_iload dX9_isRing_17 rfl (by rfl) ?_
      refine o_isub dX9_isRing_19 rfl ?_
      refine o_if_lt (tgt := 36) dX9_isRing_20 (by decide) rfl (fun (c20 : ((nI V) - (nI R)) < 0) => ?_) (fun (c20 : ¬ ((nI V) - (nI R)) < 0) => ?_)
      · skip
        have hn := (rg_c2 V hV R hR).1.mp c20
        refine o_iconst (v := 0) dX9_isRing_36 rfl (by decide) ?_
        refine o_istore (L' := [(0, vC 94), (1, vI cup), (2, vI (nI U)), (3, vI (nI V)), (4, vI (nI R)), (5, vI 0)]) dX9_isRing_37 rfl (by decide) (by rfl) (by rfl) ?_
        refine o_iload_n dX9_isRing_39 rfl rfl (by rfl) ?_
        refine o_iload dX9_isRing_40 rfl (by rfl) ?_
        refine o_isub dX9_isRing_42 rfl ?_
        refine o_istore (L' := [(0, vC 94), (1, vI cup), (2, vI (nI U)), (3, vI (nI V)), (4, vI (nI R)), (5, vI 0), (6, vI ((nI U) - (nI R)))]) dX9_isRing_43 rfl (by decide) (by rfl) (by rfl) ?_
        refine o_iload dX9_isRing_45 rfl (by rfl) ?_
        refine o_iload_n dX9_isRing_47 rfl rfl (by rfl) ?_
        refine o_iload dX9_isRing_48 rfl (by rfl) ?_
        refine o_iadd dX9_isRing_50 rfl ?_
        refine o_icmp_gt (tgt := 115) dX9_isRing_51 (by decide) rfl (fun (c51 : ((nI U) + (nI R)) < ((nI U) - (nI R))) => ?_) (fun (c51 : ¬ ((nI U) + (nI R)) < ((nI U) - (nI R))) => ?_)
        · skip
          refine o_iload dX9_isRing_115 rfl (by rfl) ?_
          exact o_zret hq dX9_isRing_117 (Or.inl rfl) ⟨rfl, (if_neg (whB_no (by omega))).symm⟩
        · skip
          refine o_iload dX9_isRing_54 rfl (by rfl) ?_
          refine o_if_eq (tgt := 115) dX9_isRing_56 (by decide) rfl (fun (c56 : (0 : Int32) = 0) => ?_) (fun (c56 : ¬ (0 : Int32) = 0) => ?_)
          · skip
            refine o_iload dX9_isRing_115 rfl (by rfl) ?_
            exact o_zret hq dX9_isRing_117 (Or.inl rfl) ⟨rfl, (if_neg (whB_no (by omega))).symm⟩
          · skip
            exact absurd (by decide) c56
      · skip
        have g3 : R ≤ V := Nat.not_lt.mp (fun h => c20 ((rg_c2 V hV R hR).1.mpr h))
        refine o_iload_n dX9_isRing_23 rfl rfl (by rfl) ?_
        refine o_iload dX9_isRing_24 rfl (by rfl) ?_
        refine o_iadd dX9_isRing_26 rfl ?_
        refine o_bipush (v := 10) dX9_isRing_27 rfl (by decide) ?_
        refine o_icmp_ge (tgt := 36) dX9_isRing_29 (by decide) rfl (fun (c29 : 10 ≤ ((nI V) + (nI R))) => ?_) (fun (c29 : ¬ 10 ≤ ((nI V) + (nI R))) => ?_)
        · skip
          have hn := (rg_c2 V hV R hR).2.mp c29
          refine o_iconst (v := 0) dX9_isRing_36 rfl (by decide) ?_
          refine o_istore (L' := [(0, vC 94), (1, vI cup), (2, vI (nI U)), (3, vI (nI V)), (4, vI (nI R)), (5, vI 0)]) dX9_isRing_37 rfl (by decide) (by rfl) (by rfl) ?_
          refine o_iload_n dX9_isRing_39 rfl rfl (by rfl) ?_
          refine o_iload dX9_isRing_40 rfl (by rfl) ?_
          refine o_isub dX9_isRing_42 rfl ?_
          refine o_istore (L' := [(0, vC 94), (1, vI cup), (2, vI (nI U)), (3, vI (nI V)), (4, vI (nI R)), (5, vI 0), (6, vI ((nI U) - (nI R)))]) dX9_isRing_43 rfl (by decide) (by rfl) (by rfl) ?_
          refine o_iload dX9_isRing_45 rfl (by rfl) ?_
          refine o_iload_n dX9_isRing_47 rfl rfl (by rfl) ?_
          refine o_iload dX9_isRing_48 rfl (by rfl) ?_
          refine o_iadd dX9_isRing_50 rfl ?_
          refine o_icmp_gt (tgt := 115) dX9_isRing_51 (by decide) rfl (fun (c51 : ((nI U) + (nI R)) < ((nI U) - (nI R))) => ?_) (fun (c51 : ¬ ((nI U) + (nI R)) < ((nI U) - (nI R))) => ?_)
          · skip
            refine o_iload dX9_isRing_115 rfl (by rfl) ?_
            exact o_zret hq dX9_isRing_117 (Or.inl rfl) ⟨rfl, (if_neg (whB_no (by omega))).symm⟩
          · skip
            refine o_iload dX9_isRing_54 rfl (by rfl) ?_
            refine o_if_eq (tgt := 115) dX9_isRing_56 (by decide) rfl (fun (c56 : (0 : Int32) = 0) => ?_) (fun (c56 : ¬ (0 : Int32) = 0) => ?_)
            · skip
              refine o_iload dX9_isRing_115 rfl (by rfl) ?_
              exact o_zret hq dX9_isRing_117 (Or.inl rfl) ⟨rfl, (if_neg (whB_no (by omega))).symm⟩
            · skip
              exact absurd (by decide) c56
        · skip
          have g4 : V + R < 10 := Nat.not_le.mp (fun h => c29 ((rg_c2 V hV R hR).2.mpr h))
          refine o_iconst (v := 1) dX9_isRing_32 rfl (by decide) ?_
          refine o_goto (tgt := 37) dX9_isRing_33 (by decide) ?_
          refine o_istore (L' := [(0, vC 94), (1, vI cup), (2, vI (nI U)), (3, vI (nI V)), (4, vI (nI R)), (5, vI 1)]) dX9_isRing_37 rfl (by decide) (by rfl) (by rfl) ?_
          refine o_iload_n dX9_isRing_39 rfl rfl (by rfl) ?_
          refine o_iload dX9_isRing_40 rfl (by rfl) ?_
          refine o_isub dX9_isRing_42 rfl ?_
          refine o_istore (L' := [(0, vC 94), (1, vI cup), (2, vI (nI U)), (3, vI (nI V)), (4, vI (nI R)), (5, vI 1), (6, vI ((nI U) - (nI R)))]) dX9_isRing_43 rfl (by decide) (by rfl) (by rfl) ?_
          have LP45 : ∀ (nLP45 : Nat) (a : Nat) (x : Int32) , (a ≤ 2 * R + 1) → ((x = 1 ∧ ∀ i, i < a → ∀ j, j < 2 * R + 1 → mu 104 (10 * (U - R + i) + (V - R + j)) = cup) ∨ (x = 0 ∧ ¬ whB (mu 104) cup U V R = true)) → (2 * R + 1 < a + nLP45) → WA X g RX9 8 cX9_isRing 45 [(0, vC 94), (1, vI cup), (2, vI (nI U)), (3, vI (nI V)), (4, vI (nI R)), (5, vI x), (6, vI (nI (U - R + a)))] [] mu := by
            intro nLP45
            induction nLP45 with
            | zero =>
              intro a x ha hX hm
              exact absurd hm (by omega)
            | succ nLP45 ihLP45 =>
              intro a x ha hX hm
              refine o_iload dX9_isRing_45 rfl (by rfl) ?_
              refine o_iload_n dX9_isRing_47 rfl rfl (by rfl) ?_
              refine o_iload dX9_isRing_48 rfl (by rfl) ?_
              refine o_iadd dX9_isRing_50 rfl ?_
              refine o_icmp_gt (tgt := 115) dX9_isRing_51 (by decide) rfl (fun (c51 : ((nI U) + (nI R)) < (nI (U - R + a))) => ?_) (fun (c51 : ¬ ((nI U) + (nI R)) < (nI (U - R + a))) => ?_)
              · skip
                rw [nI_add] at c51
                have hA2 := (nI_ltI (by omega) (by omega)).mp c51
                refine o_iload dX9_isRing_115 rfl (by rfl) ?_
                exact o_zret hq dX9_isRing_117 (hX.elim (fun h => Or.inr h.1) (fun h => Or.inl h.1)) ⟨rfl, hX.elim (fun h => h.1.trans (if_pos (whB_in ⟨g1, g2, g3, g4⟩ (fun i hi j hj => h.2 i (by omega) j hj))).symm) (fun h => h.1.trans (if_neg h.2).symm)⟩
              · skip
                rw [nI_add] at c51
                have hA2 : ¬ U + R < U - R + a := fun h => c51 ((nI_ltI (by omega) (by omega)).mpr h)
                refine o_iload dX9_isRing_54 rfl (by rfl) ?_
                refine o_if_eq (tgt := 115) dX9_isRing_56 (by decide) rfl (fun (c56 : x = 0) => ?_) (fun (c56 : ¬ x = 0) => ?_)
                · skip
                  refine o_iload dX9_isRing_115 rfl (by rfl) ?_
                  exact o_zret hq dX9_isRing_117 (hX.elim (fun h => Or.inr h.1) (fun h => Or.inl h.1)) ⟨rfl, hX.elim (fun h => by rw [h.1] at c56; exact absurd c56 (by decide)) (fun h => h.1.trans (if_neg h.2).symm)⟩
                · skip
                  have hX1 := hX.resolve_right (fun h => c56 h.1)
                  refine o_iload_n dX9_isRing_59 rfl rfl (by rfl) ?_
                  refine o_iload dX9_isRing_60 rfl (by rfl) ?_
                  refine o_isub dX9_isRing_62 rfl ?_
                  refine o_istore (L' := [(0, vC 94), (1, vI cup), (2, vI (nI U)), (3, vI (nI V)), (4, vI (nI R)), (5, vI x), (6, vI (nI (U - R + a))), (7, vI ((nI V) - (nI R)))]) dX9_isRing_63 rfl (by decide) (by rfl) (by rfl) ?_
                  have LP65 : ∀ (nLP65 : Nat) (b : Nat) (x2 : Int32) , (b ≤ 2 * R + 1) → ((x2 = 1 ∧ ∀ j, j < b → mu 104 (10 * (U - R + a) + (V - R + j)) = cup) ∨ (x2 = 0 ∧ ¬ whB (mu 104) cup U V R = true)) → (2 * R + 1 < b + nLP65) → WA X g RX9 8 cX9_isRing 65 [(0, vC 94), (1, vI cup), (2, vI (nI U)), (3, vI (nI V)), (4, vI (nI R)), (5, vI x2), (6, vI (nI (U - R + a))), (7, vI (nI (V - R + b)))] [] mu := by
                    intro nLP65
                    induction nLP65 with
                    | zero =>
                      intro b x2 hb hY hm2
                      exact absurd hm2 (by omega)
                    | succ nLP65 ihLP65 =>
                      intro b x2 hb hY hm2
                      refine o_iload dX9_isRing_65 rfl (by rfl) ?_
                      refine o_iload_n dX9_isRing_67 rfl rfl (by rfl) ?_
                      refine o_iload dX9_isRing_68 rfl (by rfl) ?_
                      refine o_iadd dX9_isRing_70 rfl ?_
                      refine o_icmp_gt (tgt := 109) dX9_isRing_71 (by decide) rfl (fun (c71 : ((nI V) + (nI R)) < (nI (V - R + b))) => ?_) (fun (c71 : ¬ ((nI V) + (nI R)) < (nI (V - R + b))) => ?_)
                      · skip
                        rw [nI_add] at c71
                        have hB2 := (nI_ltI (by omega) (by omega)).mp c71
                        refine o_iinc (v := nI (U - R + (a + 1))) (L' := [(0, vC 94), (1, vI cup), (2, vI (nI U)), (3, vI (nI V)), (4, vI (nI R)), (5, vI x2), (6, vI (nI (U - R + (a + 1)))), (7, vI (nI (V - R + b)))]) dX9_isRing_109 rfl (by rfl) (by exact nI_1 (U - R + a)) (by decide) (by rfl) (by rfl) ?_
                        refine o_goto (tgt := 45) dX9_isRing_112 (by decide) ?_
                        refine o_pick (L' := [(0, vC 94), (1, vI cup), (2, vI (nI U)), (3, vI (nI V)), (4, vI (nI R)), (5, vI x2), (6, vI (nI (U - R + (a + 1))))]) [0, 1, 2, 3, 4, 5, 6] (by rfl) ?_
                        exact ihLP45 (a + 1) _ (by omega) (hY.elim (fun h => Or.inl ⟨h.1, fun i hi j hj => if e : i = a then (by rw [e]; exact h.2 j (by omega)) else hX1.2 i (by omega) j hj⟩) Or.inr) (by omega)
                      · skip
                        rw [nI_add] at c71
                        have hB2 : ¬ V + R < V - R + b := fun h => c71 ((nI_ltI (by omega) (by omega)).mpr h)
                        refine o_iload dX9_isRing_74 rfl (by rfl) ?_
                        refine o_if_eq (tgt := 100) dX9_isRing_76 (by decide) rfl (fun (c76 : x2 = 0) => ?_) (fun (c76 : ¬ x2 = 0) => ?_)
                        · skip
                          refine o_iconst (v := 0) dX9_isRing_100 rfl (by decide) ?_
                          refine o_istore (L' := [(0, vC 94), (1, vI cup), (2, vI (nI U)), (3, vI (nI V)), (4, vI (nI R)), (5, vI 0), (6, vI (nI (U - R + a))), (7, vI (nI (V - R + b)))]) dX9_isRing_101 rfl (by decide) (by rfl) (by rfl) ?_
                          refine o_iinc (v := nI (V - R + (b + 1))) (L' := [(0, vC 94), (1, vI cup), (2, vI (nI U)), (3, vI (nI V)), (4, vI (nI R)), (5, vI 0), (6, vI (nI (U - R + a))), (7, vI (nI (V - R + (b + 1))))]) dX9_isRing_103 rfl (by rfl) (by exact nI_1 (V - R + b)) (by decide) (by rfl) (by rfl) ?_
                          refine o_goto (tgt := 65) dX9_isRing_106 (by decide) ?_
                          exact ihLP65 (b + 1) _ (by omega) (Or.inr ⟨rfl, (hY.resolve_left (fun h => by rw [h.1] at c76; exact absurd c76 (by decide))).2⟩) (by omega)
                        · skip
                          have hY1 := hY.resolve_right (fun h => c76 h.1)
                          refine o_aload_n dX9_isRing_79 rfl rfl (by rfl) ?_
                          refine o_getC (q := 104) cl_X9_41 dX9_isRing_80 rfl (by decide) (by rfl) (by rfl) ?_
                          refine o_bipush (v := 10) dX9_isRing_83 rfl (by decide) ?_
                          refine o_iload dX9_isRing_85 rfl (by rfl) ?_
                          refine o_imul dX9_isRing_87 rfl ?_
                          refine o_iload dX9_isRing_88 rfl (by rfl) ?_
                          refine o_iadd dX9_isRing_90 rfl ?_
                          rw [rg_ix]
                          refine o_iald dX9_isRing_91 rfl (by decide) (by rfl) (by rfl) (vp_in_nI (by omega) (by decide)) ?_
                          rw [nI_clamp (show 10 * (U - R + a) + (V - R + b) < 2 ^ 31 by omega)]
                          refine o_iload_n dX9_isRing_92 rfl rfl (by rfl) ?_
                          refine o_icmp_ne (tgt := 100) dX9_isRing_93 (by decide) rfl (fun (c93 : ¬ (mu 104 (10 * (U - R + a) + (V - R + b))) = cup) => ?_) (fun (c93 : (mu 104 (10 * (U - R + a) + (V - R + b))) = cup) => ?_)
                          · skip
                            refine o_iconst (v := 0) dX9_isRing_100 rfl (by decide) ?_
                            refine o_istore (L' := [(0, vC 94), (1, vI cup), (2, vI (nI U)), (3, vI (nI V)), (4, vI (nI R)), (5, vI 0), (6, vI (nI (U - R + a))), (7, vI (nI (V - R + b)))]) dX9_isRing_101 rfl (by decide) (by rfl) (by rfl) ?_
                            refine o_iinc (v := nI (V - R + (b + 1))) (L' := [(0, vC 94), (1, vI cup), (2, vI (nI U)), (3, vI (nI V)), (4, vI (nI R)), (5, vI 0), (6, vI (nI (U - R + a))), (7, vI (nI (V - R + (b + 1))))]) dX9_isRing_103 rfl (by rfl) (by exact nI_1 (V - R + b)) (by decide) (by rfl) (by rfl) ?_
                            refine o_goto (tgt := 65) dX9_isRing_106 (by decide) ?_
                            exact ihLP65 (b + 1) _ (by omega) (Or.inr ⟨rfl, whB_n2 (a := a) (b := b) (by omega) (by omega) c93⟩) (by omega)
                          · skip
                            refine o_iconst (v := 1) dX9_isRing_96 rfl (by decide) ?_
                            refine o_goto (tgt := 101) dX9_isRing_97 (by decide) ?_
                            refine o_istore (L' := [(0, vC 94), (1, vI cup), (2, vI (nI U)), (3, vI (nI V)), (4, vI (nI R)), (5, vI 1), (6, vI (nI (U - R + a))), (7, vI (nI (V - R + b)))]) dX9_isRing_101 rfl (by decide) (by rfl) (by rfl) ?_
                            refine o_iinc (v := nI (V - R + (b + 1))) (L' := [(0, vC 94), (1, vI cup), (2, vI (nI U)), (3, vI (nI V)), (4, vI (nI R)), (5, vI 1), (6, vI (nI (U - R + a))), (7, vI (nI (V - R + (b + 1))))]) dX9_isRing_103 rfl (by rfl) (by exact nI_1 (V - R + b)) (by decide) (by rfl) (by rfl) ?_
                            refine o_goto (tgt := 65) dX9_isRing_106 (by decide) ?_
                            exact ihLP65 (b + 1) _ (by omega) (Or.inl ⟨rfl, fun j hj => if e : j = b then (by rw [e]; exact c93) else hY1.2 j (by omega)⟩) (by omega)
                  rw [pk_sub g3]
                  exact LP65 (2 * R + 2) 0 x (by omega) (Or.inl ⟨hX1.1, fun j h => by omega⟩) (by omega)
          rw [pk_sub g1]
          exact LP45 (2 * R + 2) 0 1 (by omega) (Or.inl ⟨rfl, fun i h => by omega⟩) (by omega)
theorem dv10 : ∀ k, k < 90 → nI k / 10 = nI (k / 10) ∧ nI k - nI k / 10 * 10 = nI (k % 10) := by decide +kernel
theorem sb1 (x : Int32) : x - 1 + 1 = x := Int32.sub_add_cancel x 1
theorem cn_nI {b : Nat} (h : b < 2 ^ 31) : cn (nI b) = nI b := if_neg (nI_nem1 h)
theorem sub_inc (t : Nat) : nI t - 1 + Int32.ofInt 1 = nI (t + 1) - 1 := by rw [bk1]; exact sb1 (nI t)
set_option maxHeartbeats 4000000 in
set_option maxRecDepth 100000 in
theorem c_X9_middle (mu : Mu) (nc np : Nat) (hA : RB mu nc np) (cup what : Int32) : Con yX9_middle cX9_middle 7 (some .int) 5 [vC 94, vI cup, vI what] mu (fun r mu2 => ((hsB (nI nc) cup && inB what 0 2) = false ∧ r = -100001 ∧ mu2 = mu) ∨ ((hsB (nI nc) cup && inB what 0 2) = true ∧ mu 9 2 = 0 ∧ r = -100002 ∧ mu2 = mu) ∨ ((hsB (nI nc) cup && inB what 0 2) = true ∧ ¬ mu 9 2 = 0 ∧ frR mu mu2 ∧ ((mdP (eG mu (mu 2 0)) cup 90 = (-1, -1) ∧ r = -100004) ∨ ∃ b, b < 90 ∧ mdP (eG mu (mu 2 0)) cup 90 = (nI b, nI (rnK (eG mu (mu 2 0)) cup b)) ∧ r = if what = 0 then gU b else if what = 1 then gV b else nI (rnK (eG mu (mu 2 0)) cup b)))) := by
  refine con_of (own := RX9) (by decide) rfl (Nat.le_of_ble_eq_true rfl) (fun X g hq => ?_)
  show WA X g RX9 7 cX9_middle 0 [(0, vC 94), (1, vI cup), (2, vI what)] [] mu
  refine o_aload_n dX9_middle_0 rfl rfl (by rfl) ?_
  refine o_iload_n dX9_middle_1 rfl rfl (by rfl) ?_
  refine o_callV cs_X9_isCup cv_X9_95 (c_X9_isCup _ nc (by have := hA.nc.2.1; omega) hA.nc.1 cup) hq.2.2.2 (Nat.le_of_ble_eq_true rfl) dX9_middle_2 rfl (by decide) (by rfl) (by rfl) (by rfl) rfl rfl (Nat.le_of_ble_eq_true rfl) (fun r1 mu1 h1 => ?_)
  obtain ⟨em, h1⟩ := h1
  rw [em]
  refine o_if_eq (tgt := 20) dX9_middle_5 (by decide) rfl (fun (c5 : r1 = 0) => ?_) (fun (c5 : ¬ r1 = 0) => ?_)
  · skip
    have b5 := (if10 h1).1 c5
    refine o_ldc dX9_middle_20 rfl kc_X9_99 ?_
    exact o_iret hq dX9_middle_22 (Or.inl ⟨by simp [b5], rfl, rfl⟩)
  · skip
    have b5 := (if10 h1).2 c5
    refine o_iload_n dX9_middle_8 rfl rfl (by rfl) ?_
    refine o_i2l dX9_middle_9 rfl ?_
    refine o_lconst (v := 0) dX9_middle_10 rfl (by decide) ?_
    refine o_ldc2 dX9_middle_11 rfl kc_X9_75 ?_
    refine o_callS cs_X9_in ct_X9_71 (c_in _ what 0 2) hq.2.2.2 (Nat.le_of_ble_eq_true rfl) dX9_middle_14 rfl rfl rfl (Nat.le_of_ble_eq_true rfl) (fun r2 mu2 h2 => ?_)
    obtain ⟨em, h2⟩ := h2
    rw [em]
    refine o_if_ne (tgt := 23) dX9_middle_17 (by decide) rfl (fun (c17 : ¬ r2 = 0) => ?_) (fun (c17 : r2 = 0) => ?_)
    · skip
      have b17 := (if10 h2).2 c17
      refine o_aload_n dX9_middle_23 rfl rfl (by rfl) ?_
      refine o_getI cl_X9_100 dX9_middle_24 rfl (by decide) (by rfl) (by rfl) ?_
      refine o_if_ne (tgt := 33) dX9_middle_27 (by decide) rfl (fun (c27 : ¬ (mu 94 3) = 0) => ?_) (fun (c27 : (mu 94 3) = 0) => ?_)
      · skip
        have hnc := hA.nc.2.1
        obtain ⟨c, ec, hc⟩ := hsB_nI (by omega) b5
        refine o_aload_n dX9_middle_33 rfl rfl (by rfl) ?_
        refine o_callVV cs_X9_grid cv_X9_232 (c_X9_grid _ _ nc np hA) hq.2.2.2 (Nat.le_of_ble_eq_true rfl) dX9_middle_34 rfl (by decide) (by rfl) (by rfl) (by rfl) rfl rfl (Nat.le_of_ble_eq_true rfl) (fun m1 hG => ?_)
        have hW9 : ∀ u v r, whB (m1 104) cup u v r = whB (eG mu (mu 2 0)) cup u v r := fun u v r => whB_iff (fun x hx => by rw [hG.2.2 x hx, ec]; exact cn_eq (nI_nem4 (by omega)) (nI_nem1 (by omega)))
        refine o_bipush (v := (-4)) dX9_middle_37 rfl (by decide) ?_
        refine o_istore_n (L' := [(0, vC 94), (1, vI cup), (2, vI what), (3, vI ((-4)))]) dX9_middle_39 rfl rfl (by decide) (by rfl) (by rfl) ?_
        refine o_iconst (v := (-1)) dX9_middle_40 rfl (by decide) ?_
        refine o_istore (L' := [(0, vC 94), (1, vI cup), (2, vI what), (3, vI ((-4))), (4, vI ((-1)))]) dX9_middle_41 rfl (by decide) (by rfl) (by rfl) ?_
        refine o_iconst (v := 0) dX9_middle_43 rfl (by decide) ?_
        refine o_istore (L' := [(0, vC 94), (1, vI cup), (2, vI what), (3, vI ((-4))), (4, vI ((-1))), (5, vI 0)]) dX9_middle_44 rfl (by decide) (by rfl) (by rfl) ?_
        have LP46 : ∀ (nLP46 : Nat) (k : Nat) , (k ≤ 90) → (90 < k + nLP46) → WA X g RX9 7 cX9_middle 46 [(0, vC 94), (1, vI cup), (2, vI what), (3, vI (cn (mdP (eG mu (mu 2 0)) cup k).1)), (4, vI ((mdP (eG mu (mu 2 0)) cup k).2)), (5, vI (nI k))] [] m1 := by
          intro nLP46
          induction nLP46 with
          | zero =>
            intro k hk hm
            exact absurd hm (by omega)
          | succ nLP46 ihLP46 =>
            intro k hk hm
            refine o_iload dX9_middle_46 rfl (by rfl) ?_
            refine o_bipush (v := 90) dX9_middle_48 rfl (by decide) ?_
            refine o_icmp_ge (tgt := 120) dX9_middle_50 (by decide) rfl (fun (c50 : 90 ≤ (nI k)) => ?_) (fun (c50 : ¬ 90 ≤ (nI k)) => ?_)
            · skip
              have hk2 := nI_dec2 (b := 90) c50 (by omega) (by decide)
              have e2 : k = 90 := by omega
              refine o_iload_n dX9_middle_120 rfl rfl (by rfl) ?_
              refine o_if_ge (tgt := 129) dX9_middle_121 (by decide) rfl (fun (c121 : 0 ≤ (cn (mdP (eG mu (mu 2 0)) cup k).1)) => ?_) (fun (c121 : ¬ 0 ≤ (cn (mdP (eG mu (mu 2 0)) cup k).1)) => ?_)
              · skip
                obtain ⟨b, hb, eb, -⟩ := (mdP_or (eG mu (mu 2 0)) cup 90).resolve_left (fun h => by rw [e2, h] at c121; exact absurd c121 (by decide))
                have e3 : cn (mdP (eG mu (mu 2 0)) cup k).1 = nI b := by rw [e2, eb]; exact cn_nI (by omega)
                have e4 : (mdP (eG mu (mu 2 0)) cup k).2 = nI (rnK (eG mu (mu 2 0)) cup b) := by rw [e2, eb]
                refine o_iload_n dX9_middle_129 rfl rfl (by rfl) ?_
                refine o_if_ne (tgt := 142) dX9_middle_130 (by decide) rfl (fun (c130 : ¬ what = 0) => ?_) (fun (c130 : what = 0) => ?_)
                · skip
                  refine o_iload_n dX9_middle_142 rfl rfl (by rfl) ?_
                  refine o_iconst (v := 1) dX9_middle_143 rfl (by decide) ?_
                  refine o_icmp_ne (tgt := 154) dX9_middle_144 (by decide) rfl (fun (c144 : ¬ what = 1) => ?_) (fun (c144 : what = 1) => ?_)
                  · skip
                    refine o_iload dX9_middle_154 rfl (by rfl) ?_
                    exact o_iret hq dX9_middle_156 (Or.inr (Or.inr ⟨by simp [b5, b17], fun h9 => c27 (hA.z.mpr h9), hG.1, Or.inr ⟨b, hb, eb, by rw [if_neg c130, if_neg c144, e4]⟩⟩))
                  · skip
                    refine o_iload_n dX9_middle_147 rfl rfl (by rfl) ?_
                    refine o_bipush (v := 10) dX9_middle_148 rfl (by decide) ?_
                    refine o_irem dX9_middle_150 rfl (by decide) ?_
                    refine o_goto (tgt := 156) dX9_middle_151 (by decide) ?_
                    exact o_iret hq dX9_middle_156 (Or.inr (Or.inr ⟨by simp [b5, b17], fun h9 => c27 (hA.z.mpr h9), hG.1, Or.inr ⟨b, hb, eb, by rw [if_neg c130, if_pos c144, e3]; exact gV_r b hb⟩⟩))
                · skip
                  refine o_iload_n dX9_middle_133 rfl rfl (by rfl) ?_
                  refine o_bipush (v := 10) dX9_middle_134 rfl (by decide) ?_
                  refine o_idiv dX9_middle_136 rfl (by decide) ?_
                  refine o_iconst (v := 4) dX9_middle_137 rfl (by decide) ?_
                  refine o_isub dX9_middle_138 rfl ?_
                  refine o_goto (tgt := 156) dX9_middle_139 (by decide) ?_
                  exact o_iret hq dX9_middle_156 (Or.inr (Or.inr ⟨by simp [b5, b17], fun h9 => c27 (hA.z.mpr h9), hG.1, Or.inr ⟨b, hb, eb, by rw [if_pos c130, e3]; exact gU_r b hb⟩⟩))
              · skip
                have hMN : mdP (eG mu (mu 2 0)) cup 90 = (-1, -1) := (mdP_or _ _ 90).resolve_right (fun ⟨b, h1, h2, _⟩ => by rw [e2, h2] at c121; exact c121 (by show (0 : Int32) ≤ cn (nI b); rw [cn_nI (by omega)]; exact nI_nn (by omega)))
                refine o_ldc dX9_middle_124 rfl kc_X9_243 ?_
                refine o_goto (tgt := 156) dX9_middle_126 (by decide) ?_
                exact o_iret hq dX9_middle_156 (Or.inr (Or.inr ⟨by simp [b5, b17], fun h9 => c27 (hA.z.mpr h9), hG.1, Or.inl ⟨hMN, rfl⟩⟩))
            · skip
              have hk2 := nI_dec (b := 90) c50 (by omega) (by decide)
              refine o_iconst (v := (-1)) dX9_middle_53 rfl (by decide) ?_
              refine o_istore (L' := [(0, vC 94), (1, vI cup), (2, vI what), (3, vI (cn (mdP (eG mu (mu 2 0)) cup k).1)), (4, vI ((mdP (eG mu (mu 2 0)) cup k).2)), (5, vI (nI k)), (6, vI ((-1)))]) dX9_middle_54 rfl (by decide) (by rfl) (by rfl) ?_
              have LP56 : ∀ (nLP56 : Nat) (t : Nat) , (t ≤ 5) → (∀ s, s < t → whB (eG mu (mu 2 0)) cup (k / 10) (k % 10) s = true) → (5 < t + nLP56) → WA X g RX9 7 cX9_middle 56 [(0, vC 94), (1, vI cup), (2, vI what), (3, vI (cn (mdP (eG mu (mu 2 0)) cup k).1)), (4, vI ((mdP (eG mu (mu 2 0)) cup k).2)), (5, vI (nI k)), (6, vI (nI t - 1))] [] m1 := by
                intro nLP56
                induction nLP56 with
                | zero =>
                  intro t ht hW hm2
                  exact absurd hm2 (by omega)
                | succ nLP56 ihLP56 =>
                  intro t ht hW hm2
                  refine o_aload_n dX9_middle_56 rfl rfl (by rfl) ?_
                  refine o_iload_n dX9_middle_57 rfl rfl (by rfl) ?_
                  refine o_iload dX9_middle_58 rfl (by rfl) ?_
                  refine o_bipush (v := 10) dX9_middle_60 rfl (by decide) ?_
                  refine o_idiv dX9_middle_62 rfl (by decide) ?_
                  refine o_iload dX9_middle_63 rfl (by rfl) ?_
                  refine o_bipush (v := 10) dX9_middle_65 rfl (by decide) ?_
                  refine o_irem dX9_middle_67 rfl (by decide) ?_
                  refine o_iload dX9_middle_68 rfl (by rfl) ?_
                  refine o_iconst (v := 1) dX9_middle_70 rfl (by decide) ?_
                  refine o_iadd dX9_middle_71 rfl ?_
                  rw [(dv10 k hk2).2, (dv10 k hk2).1, sb1]
                  refine o_callV cs_X9_isRing cv_X9_239 (c_X9_isRing _ cup (k / 10) (k % 10) t (by omega) (by omega) (by omega)) hq.2.2.2 (Nat.le_of_ble_eq_true rfl) dX9_middle_72 rfl (by decide) (by rfl) (by rfl) (by rfl) rfl rfl (Nat.le_of_ble_eq_true rfl) (fun rR mu4 hR9 => ?_)
                  obtain ⟨em, hR9⟩ := hR9
                  rw [em]
                  rw [hW9] at hR9
                  refine o_if_eq (tgt := 84) dX9_middle_75 (by decide) rfl (fun (c75 : rR = 0) => ?_) (fun (c75 : ¬ rR = 0) => ?_)
                  · skip
                    have b75 := (if10 hR9).1 c75
                    refine o_iload dX9_middle_84 rfl (by rfl) ?_
                    refine o_iload dX9_middle_86 rfl (by rfl) ?_
                    refine o_icmp_le (tgt := 96) dX9_middle_88 (by decide) rfl (fun (c88 : (nI t - 1) ≤ ((mdP (eG mu (mu 2 0)) cup k).2)) => ?_) (fun (c88 : ¬ (nI t - 1) ≤ ((mdP (eG mu (mu 2 0)) cup k).2)) => ?_)
                    · skip
                      refine o_iload_n dX9_middle_96 rfl rfl (by rfl) ?_
                      refine o_istore_n (L' := [(0, vC 94), (1, vI cup), (2, vI what), (3, vI (cn (mdP (eG mu (mu 2 0)) cup k).1)), (4, vI ((mdP (eG mu (mu 2 0)) cup k).2)), (5, vI (nI k)), (6, vI (nI t - 1))]) dX9_middle_97 rfl rfl (by decide) (by rfl) (by rfl) ?_
                      refine o_iload dX9_middle_98 rfl (by rfl) ?_
                      refine o_iload dX9_middle_100 rfl (by rfl) ?_
                      refine o_icmp_le (tgt := 110) dX9_middle_102 (by decide) rfl (fun (c102 : (nI t - 1) ≤ ((mdP (eG mu (mu 2 0)) cup k).2)) => ?_) (fun (c102 : ¬ (nI t - 1) ≤ ((mdP (eG mu (mu 2 0)) cup k).2)) => ?_)
                      · skip
                        refine o_iload dX9_middle_110 rfl (by rfl) ?_
                        refine o_istore (L' := [(0, vC 94), (1, vI cup), (2, vI what), (3, vI (cn (mdP (eG mu (mu 2 0)) cup k).1)), (4, vI ((mdP (eG mu (mu 2 0)) cup k).2)), (5, vI (nI k)), (6, vI (nI t - 1))]) dX9_middle_112 rfl (by decide) (by rfl) (by rfl) ?_
                        refine o_iinc (v := nI (k + 1)) (L' := [(0, vC 94), (1, vI cup), (2, vI what), (3, vI (cn (mdP (eG mu (mu 2 0)) cup k).1)), (4, vI ((mdP (eG mu (mu 2 0)) cup k).2)), (5, vI (nI (k + 1))), (6, vI (nI t - 1))]) dX9_middle_114 rfl (by rfl) (by exact nI_1 k) (by decide) (by rfl) (by rfl) ?_
                        refine o_goto (tgt := 46) dX9_middle_117 (by decide) ?_
                        refine o_pick (L' := [(0, vC 94), (1, vI cup), (2, vI what), (3, vI (cn (mdP (eG mu (mu 2 0)) cup k).1)), (4, vI ((mdP (eG mu (mu 2 0)) cup k).2)), (5, vI (nI (k + 1)))]) [0, 1, 2, 3, 4, 5] (by rfl) ?_
                        have e9 := (md_step (f := (eG mu (mu 2 0))) hk2 ht hW b75).1 c88
                        have h9 := ihLP46 (k + 1) (by omega) (by omega)
                        rw [e9] at h9
                        exact h9
                      · skip
                        exact absurd c88 c102
                    · skip
                      refine o_iload dX9_middle_91 rfl (by rfl) ?_
                      refine o_goto (tgt := 97) dX9_middle_93 (by decide) ?_
                      refine o_istore_n (L' := [(0, vC 94), (1, vI cup), (2, vI what), (3, vI (nI k)), (4, vI ((mdP (eG mu (mu 2 0)) cup k).2)), (5, vI (nI k)), (6, vI (nI t - 1))]) dX9_middle_97 rfl rfl (by decide) (by rfl) (by rfl) ?_
                      refine o_iload dX9_middle_98 rfl (by rfl) ?_
                      refine o_iload dX9_middle_100 rfl (by rfl) ?_
                      refine o_icmp_le (tgt := 110) dX9_middle_102 (by decide) rfl (fun (c102 : (nI t - 1) ≤ ((mdP (eG mu (mu 2 0)) cup k).2)) => ?_) (fun (c102 : ¬ (nI t - 1) ≤ ((mdP (eG mu (mu 2 0)) cup k).2)) => ?_)
                      · skip
                        exact absurd c102 c88
                      · skip
                        refine o_iload dX9_middle_105 rfl (by rfl) ?_
                        refine o_goto (tgt := 112) dX9_middle_107 (by decide) ?_
                        refine o_istore (L' := [(0, vC 94), (1, vI cup), (2, vI what), (3, vI (nI k)), (4, vI (nI t - 1)), (5, vI (nI k)), (6, vI (nI t - 1))]) dX9_middle_112 rfl (by decide) (by rfl) (by rfl) ?_
                        refine o_iinc (v := nI (k + 1)) (L' := [(0, vC 94), (1, vI cup), (2, vI what), (3, vI (nI k)), (4, vI (nI t - 1)), (5, vI (nI (k + 1))), (6, vI (nI t - 1))]) dX9_middle_114 rfl (by rfl) (by exact nI_1 k) (by decide) (by rfl) (by rfl) ?_
                        refine o_goto (tgt := 46) dX9_middle_117 (by decide) ?_
                        refine o_pick (L' := [(0, vC 94), (1, vI cup), (2, vI what), (3, vI (nI k)), (4, vI (nI t - 1)), (5, vI (nI (k + 1)))]) [0, 1, 2, 3, 4, 5] (by rfl) ?_
                        have e9 := (md_step (f := (eG mu (mu 2 0))) hk2 ht hW b75).2 c88
                        have h9 := ihLP46 (k + 1) (by omega) (by omega)
                        rw [e9] at h9
                        rw [cn_nI (by omega)] at h9
                        exact h9
                  · skip
                    have b75 := (if10 hR9).2 c75
                    refine o_iinc (v := nI (t + 1) - 1) (L' := [(0, vC 94), (1, vI cup), (2, vI what), (3, vI (cn (mdP (eG mu (mu 2 0)) cup k).1)), (4, vI ((mdP (eG mu (mu 2 0)) cup k).2)), (5, vI (nI k)), (6, vI (nI (t + 1) - 1))]) dX9_middle_78 rfl (by rfl) (by exact sub_inc t) (by decide) (by rfl) (by rfl) ?_
                    refine o_goto (tgt := 56) dX9_middle_81 (by decide) ?_
                    exact ihLP56 (t + 1) (by have := whB_4 b75; omega) (fun s hs => if e : s = t then (by rw [e]; exact b75) else hW s (by omega)) (by have := whB_4 b75; omega)
              exact LP56 6 0 (by omega) (fun s h => by omega) (by omega)
        exact LP46 91 0 (by omega) (by omega)
      · skip
        refine o_ldc dX9_middle_30 rfl kc_X9_238 ?_
        exact o_iret hq dX9_middle_32 (Or.inr (Or.inl ⟨by simp [b5, b17], hA.z.mp c27, rfl, rfl⟩))
    · skip
      have b17 := (if10 h2).1 c17
      refine o_ldc dX9_middle_20 rfl kc_X9_99 ?_
      exact o_iret hq dX9_middle_22 (Or.inl ⟨by simp [b5, b17], rfl, rfl⟩)
