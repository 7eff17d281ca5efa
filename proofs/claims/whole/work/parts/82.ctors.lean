/-! ===== the constructors ===== -/
theorem ac_int : Cond.arrayClass .int ∈ tb0 := mem0 (i := 109) (by decide +kernel) rfl
theorem ac_boo : Cond.arrayClass .boolean ∈ tb0 := mem0 (i := 264) (by decide +kernel) rfl
theorem clo_X4_13 : CLO RX4 13 := ⟨mem0 (i := 75) (by decide +kernel) rfl, mem0 (i := 76) (by decide +kernel) rfl, mem0 (i := 77) (by decide +kernel) rfl, mem0 (i := 78) (by decide +kernel) rfl, mem0 (i := 79) (by decide +kernel) rfl⟩
abbrev e_tab (q : Nat) (m : Int32) : va_E := .inr (6, [.ref q, .int m, .int 0])
def tabW (ks : KS) (o N K q : Nat) (m : Int32) (r : Nat → Nat) : va_W := (o, e_tab q m) :: l_rows ks N K q r
theorem mo_X6_3 : MO RX6 3 := ⟨mem0 (i := 87) (by decide +kernel) rfl, mem0 (i := 65) (by decide +kernel) rfl, mem0 (i := 66) (by decide +kernel) rfl⟩
theorem cq_X6_0 : CLq TX6 tyX6 3 0 (.array (.array .int)) := ⟨tyX6_ok, nmX6, by decide +kernel⟩
theorem cq_X6_1 : CLq TX6 tyX6 3 1 (.int) := ⟨tyX6_ok, nmX6, by decide +kernel⟩
set_option maxHeartbeats 4000000 in
set_option maxRecDepth 100000 in
theorem i_X6_4_5 (ks : KS) (o : Nat) : ConI yX6_init cX6_init 3 1 5 24 [.ref o, .int 4, .int 5] (o, .inr (6, [.null, .int 0, .int 0])) (fun _ => True) ks (fun w => ∃ q r, w = tabW ks o 4 5 q 5 r) := by
  refine con_i (by decide) rfl rfl (Nat.le_of_ble_eq_true rfl) (fun X g w0 hw hks hq => ?_)
  subst hks
  show WL X g RX6 3 cX6_init 0 [(0, .ref o), (1, .int 4), (2, .int 5)] [] w0 [(o, .inr (6, [.null, .int 0, .int 0]))] 0 0
  refine l_aload_n 0 dX6_init_0 rfl rfl rfl ?_
  refine l_obj mo_X6_3 dX6_init_1 rfl (by rw [hq.2.2.2.2]; exact Nat.le_of_ble_eq_true rfl) (by rw [hq.2.2.2.2]; exact Nat.le_of_ble_eq_true rfl) ?_
  refine l_aload_n 0 dX6_init_4 rfl rfl rfl ?_
  refine l_iload_n 1 dX6_init_5 rfl rfl rfl ?_
  refine l_iconst (v := 0) dX6_init_6 rfl (by decide) ?_
  refine l_max mt_X6_9 dX6_init_7 rfl (by rw [hq.2.2.2.2]; exact Nat.le_of_ble_eq_true rfl) (by rw [hq.2.2.2.2]; exact Nat.le_of_ble_eq_true rfl) (by rw [hq.2.2.2.2]; exact Nat.le_of_ble_eq_true rfl) (by rw [hq.2.2.2.2]; exact Nat.le_of_ble_eq_true rfl) ?_
  show WL X g RX6 3 cX6_init 10 [(0, .ref o), (1, .int 4), (2, .int 5)] [.int 4, .ref o] w0 ([(o, .inr (6, [.null, .int 0, .int 0]))]) 0 0
  refine l_iload_n 2 dX6_init_10 rfl rfl rfl ?_
  refine l_iconst (v := 0) dX6_init_11 rfl (by decide) ?_
  refine l_max mt_X6_9 dX6_init_12 rfl (by rw [hq.2.2.2.2]; exact Nat.le_of_ble_eq_true rfl) (by rw [hq.2.2.2.2]; exact Nat.le_of_ble_eq_true rfl) (by rw [hq.2.2.2.2]; exact Nat.le_of_ble_eq_true rfl) (by rw [hq.2.2.2.2]; exact Nat.le_of_ble_eq_true rfl) ?_
  show WL X g RX6 3 cX6_init 15 [(0, .ref o), (1, .int 4), (2, .int 5)] [.int 5, .int 4, .ref o] w0 ([(o, .inr (6, [.null, .int 0, .int 0]))]) 0 0
  refine l_mna (N := 4) (K := 5) (mem0 (i := 91) (by decide +kernel) rfl) ac_int dX6_init_15 rfl (by decide) (by decide) (by decide) (by decide) (by decide) (by decide) (by rw [hq.2.2.2.2]; exact Nat.le_of_ble_eq_true rfl) (by rw [hq.2.2.2.2]; exact Nat.le_of_ble_eq_true rfl) (fun a1 r1 => ?_)
  show WL X g RX6 3 cX6_init 19 [(0, .ref o), (1, .int 4), (2, .int 5)] [.ref a1, .ref o] w0 ((o, .inr (6, [.null, .int 0, .int 0])) :: (l_rows (lk g) 4 5 a1 r1)) 5 24
  refine l_put (j := 0) (fs := [.null, .int 0, .int 0]) (w' := (o, .inr (6, [.ref a1, .int 0, .int 0])) :: (l_rows (lk g) 4 5 a1 r1)) hq.2.2.2.1 rfl cl_X6_17 cq_X6_0 dX6_init_19 rfl rfl (Nat.le_of_ble_eq_true rfl) ⟨rfl, rfl⟩ rfl ?_
  refine l_aload_n 0 dX6_init_22 rfl rfl rfl ?_
  refine l_iload_n 2 dX6_init_23 rfl rfl rfl ?_
  refine l_put (j := 0) (fs := [.ref a1, .int 0, .int 0]) (w' := (o, .inr (6, [.ref a1, .int 5, .int 0])) :: (l_rows (lk g) 4 5 a1 r1)) hq.2.2.2.1 rfl cl_X6_22 cq_X6_1 dX6_init_24 rfl rfl (Nat.le_of_ble_eq_true rfl) ⟨rfl, rfl⟩ rfl ?_
  exact l_vret hq dX6_init_27 ⟨_, _, rfl⟩
set_option maxHeartbeats 4000000 in
set_option maxRecDepth 100000 in
theorem i_X6_6_3 (ks : KS) (o : Nat) : ConI yX6_init cX6_init 3 1 7 24 [.ref o, .int 6, .int 3] (o, .inr (6, [.null, .int 0, .int 0])) (fun _ => True) ks (fun w => ∃ q r, w = tabW ks o 6 3 q 3 r) := by
  refine con_i (by decide) rfl rfl (Nat.le_of_ble_eq_true rfl) (fun X g w0 hw hks hq => ?_)
  subst hks
  show WL X g RX6 3 cX6_init 0 [(0, .ref o), (1, .int 6), (2, .int 3)] [] w0 [(o, .inr (6, [.null, .int 0, .int 0]))] 0 0
  refine l_aload_n 0 dX6_init_0 rfl rfl rfl ?_
  refine l_obj mo_X6_3 dX6_init_1 rfl (by rw [hq.2.2.2.2]; exact Nat.le_of_ble_eq_true rfl) (by rw [hq.2.2.2.2]; exact Nat.le_of_ble_eq_true rfl) ?_
  refine l_aload_n 0 dX6_init_4 rfl rfl rfl ?_
  refine l_iload_n 1 dX6_init_5 rfl rfl rfl ?_
  refine l_iconst (v := 0) dX6_init_6 rfl (by decide) ?_
  refine l_max mt_X6_9 dX6_init_7 rfl (by rw [hq.2.2.2.2]; exact Nat.le_of_ble_eq_true rfl) (by rw [hq.2.2.2.2]; exact Nat.le_of_ble_eq_true rfl) (by rw [hq.2.2.2.2]; exact Nat.le_of_ble_eq_true rfl) (by rw [hq.2.2.2.2]; exact Nat.le_of_ble_eq_true rfl) ?_
  show WL X g RX6 3 cX6_init 10 [(0, .ref o), (1, .int 6), (2, .int 3)] [.int 6, .ref o] w0 ([(o, .inr (6, [.null, .int 0, .int 0]))]) 0 0
  refine l_iload_n 2 dX6_init_10 rfl rfl rfl ?_
  refine l_iconst (v := 0) dX6_init_11 rfl (by decide) ?_
  refine l_max mt_X6_9 dX6_init_12 rfl (by rw [hq.2.2.2.2]; exact Nat.le_of_ble_eq_true rfl) (by rw [hq.2.2.2.2]; exact Nat.le_of_ble_eq_true rfl) (by rw [hq.2.2.2.2]; exact Nat.le_of_ble_eq_true rfl) (by rw [hq.2.2.2.2]; exact Nat.le_of_ble_eq_true rfl) ?_
  show WL X g RX6 3 cX6_init 15 [(0, .ref o), (1, .int 6), (2, .int 3)] [.int 3, .int 6, .ref o] w0 ([(o, .inr (6, [.null, .int 0, .int 0]))]) 0 0
  refine l_mna (N := 6) (K := 3) (mem0 (i := 91) (by decide +kernel) rfl) ac_int dX6_init_15 rfl (by decide) (by decide) (by decide) (by decide) (by decide) (by decide) (by rw [hq.2.2.2.2]; exact Nat.le_of_ble_eq_true rfl) (by rw [hq.2.2.2.2]; exact Nat.le_of_ble_eq_true rfl) (fun a1 r1 => ?_)
  show WL X g RX6 3 cX6_init 19 [(0, .ref o), (1, .int 6), (2, .int 3)] [.ref a1, .ref o] w0 ((o, .inr (6, [.null, .int 0, .int 0])) :: (l_rows (lk g) 6 3 a1 r1)) 7 24
  refine l_put (j := 0) (fs := [.null, .int 0, .int 0]) (w' := (o, .inr (6, [.ref a1, .int 0, .int 0])) :: (l_rows (lk g) 6 3 a1 r1)) hq.2.2.2.1 rfl cl_X6_17 cq_X6_0 dX6_init_19 rfl rfl (Nat.le_of_ble_eq_true rfl) ⟨rfl, rfl⟩ rfl ?_
  refine l_aload_n 0 dX6_init_22 rfl rfl rfl ?_
  refine l_iload_n 2 dX6_init_23 rfl rfl rfl ?_
  refine l_put (j := 0) (fs := [.ref a1, .int 0, .int 0]) (w' := (o, .inr (6, [.ref a1, .int 3, .int 0])) :: (l_rows (lk g) 6 3 a1 r1)) hq.2.2.2.1 rfl cl_X6_22 cq_X6_1 dX6_init_24 rfl rfl (Nat.le_of_ble_eq_true rfl) ⟨rfl, rfl⟩ rfl ?_
  exact l_vret hq dX6_init_27 ⟨_, _, rfl⟩
set_option maxHeartbeats 4000000 in
set_option maxRecDepth 100000 in
theorem i_X6_8_4 (ks : KS) (o : Nat) : ConI yX6_init cX6_init 3 1 9 40 [.ref o, .int 8, .int 4] (o, .inr (6, [.null, .int 0, .int 0])) (fun _ => True) ks (fun w => ∃ q r, w = tabW ks o 8 4 q 4 r) := by
  refine con_i (by decide) rfl rfl (Nat.le_of_ble_eq_true rfl) (fun X g w0 hw hks hq => ?_)
  subst hks
  show WL X g RX6 3 cX6_init 0 [(0, .ref o), (1, .int 8), (2, .int 4)] [] w0 [(o, .inr (6, [.null, .int 0, .int 0]))] 0 0
  refine l_aload_n 0 dX6_init_0 rfl rfl rfl ?_
  refine l_obj mo_X6_3 dX6_init_1 rfl (by rw [hq.2.2.2.2]; exact Nat.le_of_ble_eq_true rfl) (by rw [hq.2.2.2.2]; exact Nat.le_of_ble_eq_true rfl) ?_
  refine l_aload_n 0 dX6_init_4 rfl rfl rfl ?_
  refine l_iload_n 1 dX6_init_5 rfl rfl rfl ?_
  refine l_iconst (v := 0) dX6_init_6 rfl (by decide) ?_
  refine l_max mt_X6_9 dX6_init_7 rfl (by rw [hq.2.2.2.2]; exact Nat.le_of_ble_eq_true rfl) (by rw [hq.2.2.2.2]; exact Nat.le_of_ble_eq_true rfl) (by rw [hq.2.2.2.2]; exact Nat.le_of_ble_eq_true rfl) (by rw [hq.2.2.2.2]; exact Nat.le_of_ble_eq_true rfl) ?_
  show WL X g RX6 3 cX6_init 10 [(0, .ref o), (1, .int 8), (2, .int 4)] [.int 8, .ref o] w0 ([(o, .inr (6, [.null, .int 0, .int 0]))]) 0 0
  refine l_iload_n 2 dX6_init_10 rfl rfl rfl ?_
  refine l_iconst (v := 0) dX6_init_11 rfl (by decide) ?_
  refine l_max mt_X6_9 dX6_init_12 rfl (by rw [hq.2.2.2.2]; exact Nat.le_of_ble_eq_true rfl) (by rw [hq.2.2.2.2]; exact Nat.le_of_ble_eq_true rfl) (by rw [hq.2.2.2.2]; exact Nat.le_of_ble_eq_true rfl) (by rw [hq.2.2.2.2]; exact Nat.le_of_ble_eq_true rfl) ?_
  show WL X g RX6 3 cX6_init 15 [(0, .ref o), (1, .int 8), (2, .int 4)] [.int 4, .int 8, .ref o] w0 ([(o, .inr (6, [.null, .int 0, .int 0]))]) 0 0
  refine l_mna (N := 8) (K := 4) (mem0 (i := 91) (by decide +kernel) rfl) ac_int dX6_init_15 rfl (by decide) (by decide) (by decide) (by decide) (by decide) (by decide) (by rw [hq.2.2.2.2]; exact Nat.le_of_ble_eq_true rfl) (by rw [hq.2.2.2.2]; exact Nat.le_of_ble_eq_true rfl) (fun a1 r1 => ?_)
  show WL X g RX6 3 cX6_init 19 [(0, .ref o), (1, .int 8), (2, .int 4)] [.ref a1, .ref o] w0 ((o, .inr (6, [.null, .int 0, .int 0])) :: (l_rows (lk g) 8 4 a1 r1)) 9 40
  refine l_put (j := 0) (fs := [.null, .int 0, .int 0]) (w' := (o, .inr (6, [.ref a1, .int 0, .int 0])) :: (l_rows (lk g) 8 4 a1 r1)) hq.2.2.2.1 rfl cl_X6_17 cq_X6_0 dX6_init_19 rfl rfl (Nat.le_of_ble_eq_true rfl) ⟨rfl, rfl⟩ rfl ?_
  refine l_aload_n 0 dX6_init_22 rfl rfl rfl ?_
  refine l_iload_n 2 dX6_init_23 rfl rfl rfl ?_
  refine l_put (j := 0) (fs := [.ref a1, .int 0, .int 0]) (w' := (o, .inr (6, [.ref a1, .int 4, .int 0])) :: (l_rows (lk g) 8 4 a1 r1)) hq.2.2.2.1 rfl cl_X6_22 cq_X6_1 dX6_init_24 rfl rfl (Nat.le_of_ble_eq_true rfl) ⟨rfl, rfl⟩ rfl ?_
  exact l_vret hq dX6_init_27 ⟨_, _, rfl⟩
abbrev e_set (a t1 t2 t3 : Nat) : va_E := .inr (4, [.ref a, .ref t1, .ref t2, .ref t3])
def setW (ks : KS) (o a t1 q1 : Nat) (r1 : Nat → Nat) (t2 q2 : Nat) (r2 : Nat → Nat) (t3 q3 : Nat) (r3 : Nat → Nat) : va_W := (o, e_set a t1 t2 t3) :: (a, .inl (ks.1, 3, .inl st3)) :: ((tabW ks t1 4 5 q1 5 r1 ++ tabW ks t2 6 3 q2 3 r2) ++ tabW ks t3 8 4 q3 4 r3)
theorem mo_X4_3 : MO RX4 3 := ⟨mem0 (i := 72) (by decide +kernel) rfl, mem0 (i := 65) (by decide +kernel) rfl, mem0 (i := 66) (by decide +kernel) rfl⟩
theorem cq_X4_0 : CLq TX4 tyX4 4 0 (.array .int) := ⟨tyX4_ok, nmX4, by decide +kernel⟩
theorem cn_X4_23 : CN RX4 RX6 TX6 tyX6 3 6 23 := ⟨rfl, in_X6, tyX6_ok, mem0 (i := 82) (by decide +kernel) rfl, mem0 (i := 83) (by decide +kernel) rfl, mem0 (i := 47) (by decide +kernel) rfl⟩
theorem ci_X4_25 : CSI RX4 25 yX6_init := ⟨mem0 (i := 84) (by decide +kernel) rfl, mem0 (i := 85) (by decide +kernel) rfl⟩
theorem cq_X4_1 : CLq TX4 tyX4 4 1 (.object "BallInCup$Table") := ⟨tyX4_ok, nmX4, by decide +kernel⟩
theorem cq_X4_2 : CLq TX4 tyX4 4 2 (.object "BallInCup$Table") := ⟨tyX4_ok, nmX4, by decide +kernel⟩
theorem cq_X4_3 : CLq TX4 tyX4 4 3 (.object "BallInCup$Table") := ⟨tyX4_ok, nmX4, by decide +kernel⟩
set_option maxHeartbeats 4000000 in
set_option maxRecDepth 100000 in
theorem i_X4 (ks : KS) (o : Nat) : ConI yX4_init cX4_init 1 2 25 100 [.ref o] (o, .inr (4, [.null, .null, .null, .null])) (fun _ => True) ks (fun w => ∃ a t1 q1 r1 t2 q2 r2 t3 q3 r3, w = setW ks o a t1 q1 r1 t2 q2 r2 t3 q3 r3) := by
  refine con_i (by decide) rfl rfl (Nat.le_of_ble_eq_true rfl) (fun X g w0 hw hks hq => ?_)
  subst hks
  show WL X g RX4 1 cX4_init 0 [(0, .ref o)] [] w0 [(o, .inr (4, [.null, .null, .null, .null]))] 0 0
  refine l_aload_n 0 dX4_init_0 rfl rfl rfl ?_
  refine l_obj mo_X4_3 dX4_init_1 rfl (by rw [hq.2.2.2.2]; exact Nat.le_of_ble_eq_true rfl) (by rw [hq.2.2.2.2]; exact Nat.le_of_ble_eq_true rfl) ?_
  refine l_aload_n 0 dX4_init_4 rfl rfl rfl ?_
  refine l_gets (host := "BallInCup") dX4_init_5 rfl (memN (i := 73) (by decide +kernel) rfl) ?_
  refine l_clone clo_X4_13 dX4_init_8 rfl (by rw [hq.2.2.2.2]; exact Nat.le_of_ble_eq_true rfl) (by rw [hq.2.2.2.2]; exact Nat.le_of_ble_eq_true rfl) (by rw [hq.2.2.2.2]; exact Nat.le_of_ble_eq_true rfl) (by rw [hq.2.2.2.2]; exact Nat.le_of_ble_eq_true rfl) (fun a1 => ?_)
  show WL X g RX4 1 cX4_init 11 [(0, .ref o)] [.ref a1, .ref o] w0 ([(o, .inr (4, [.null, .null, .null, .null])), (a1, .inl ((lk g).1, 3, .inl st3))]) 1 3
  refine l_cast (p := 1) (mem0 (i := 81) (by decide +kernel) rfl) dX4_init_11 rfl rfl ?_
  refine l_put (j := 0) (fs := [.null, .null, .null, .null]) (w' := [(o, .inr (4, [.ref a1, .null, .null, .null])), (a1, .inl ((lk g).1, 3, .inl st3))]) hq.2.2.2.1 rfl cl_X4_18 cq_X4_0 dX4_init_14 rfl rfl (Nat.le_of_ble_eq_true rfl) ⟨rfl, rfl⟩ rfl ?_
  refine l_aload_n 0 dX4_init_17 rfl rfl rfl ?_
  refine l_new (fs := [.null, .int 0, .int 0]) cn_X4_23 dX4_init_18 rfl (by decide +kernel) (by rw [hq.2.2.2.2]; exact Nat.le_of_ble_eq_true rfl) (by rw [hq.2.2.2.2]; exact Nat.le_of_ble_eq_true rfl) (fun a2 => ?_)
  refine l_dup dX4_init_21 rfl ?_
  refine l_iconst (v := 4) dX4_init_22 rfl (by decide) ?_
  refine l_iconst (v := 5) dX4_init_23 rfl (by decide) ?_
  refine l_call (a := a2) (As := [.int 4, .int 5]) (rest := [.ref a2, .ref o]) (v := [(o, .inr (4, [.ref a1, .null, .null, .null])), (a1, .inl ((lk g).1, 3, .inl st3))]) (x := (a2, .inr (6, [.null, .int 0, .int 0]))) cs_X6_init ci_X4_25 (i_X6_4_5 (lk g) a2) rfl (by rw [hq.2.2.2.2]; exact Nat.le_of_ble_eq_true rfl) (by rw [hq.2.2.2.2]; exact Nat.le_of_ble_eq_true rfl) (by rw [hq.2.2.2.2]; exact Nat.le_of_ble_eq_true rfl) (by rw [hq.2.2.2.2]; exact Nat.le_of_ble_eq_true rfl) dX4_init_24 rfl rfl rfl (Nat.le_of_ble_eq_true rfl) rfl trivial (fun wR hR => ?_)
  obtain ⟨q3, r3, rfl⟩ := hR
  show WL X g RX4 1 cX4_init 27 [(0, .ref o)] [.ref a2, .ref o] w0 ((o, .inr (4, [.ref a1, .null, .null, .null])) :: (a1, .inl ((lk g).1, 3, .inl st3)) :: (tabW (lk g) a2 4 5 q3 5 r3)) 7 30
  refine l_put (j := 0) (fs := [.ref a1, .null, .null, .null]) (w' := (o, .inr (4, [.ref a1, .ref a2, .null, .null])) :: (a1, .inl ((lk g).1, 3, .inl st3)) :: (tabW (lk g) a2 4 5 q3 5 r3)) hq.2.2.2.1 rfl cl_X4_28 cq_X4_1 dX4_init_27 rfl rfl (Nat.le_of_ble_eq_true rfl) ⟨rfl, rfl⟩ rfl ?_
  refine l_aload_n 0 dX4_init_30 rfl rfl rfl ?_
  refine l_new (fs := [.null, .int 0, .int 0]) cn_X4_23 dX4_init_31 rfl (by decide +kernel) (by rw [hq.2.2.2.2]; exact Nat.le_of_ble_eq_true rfl) (by rw [hq.2.2.2.2]; exact Nat.le_of_ble_eq_true rfl) (fun a4 => ?_)
  refine l_dup dX4_init_34 rfl ?_
  refine l_bipush (v := 6) dX4_init_35 rfl (by decide) ?_
  refine l_iconst (v := 3) dX4_init_37 rfl (by decide) ?_
  refine l_call (a := a4) (As := [.int 6, .int 3]) (rest := [.ref a4, .ref o]) (v := (o, .inr (4, [.ref a1, .ref a2, .null, .null])) :: (a1, .inl ((lk g).1, 3, .inl st3)) :: (tabW (lk g) a2 4 5 q3 5 r3)) (x := (a4, .inr (6, [.null, .int 0, .int 0]))) cs_X6_init ci_X4_25 (i_X6_6_3 (lk g) a4) rfl (by rw [hq.2.2.2.2]; exact Nat.le_of_ble_eq_true rfl) (by rw [hq.2.2.2.2]; exact Nat.le_of_ble_eq_true rfl) (by rw [hq.2.2.2.2]; exact Nat.le_of_ble_eq_true rfl) (by rw [hq.2.2.2.2]; exact Nat.le_of_ble_eq_true rfl) dX4_init_38 rfl rfl rfl (Nat.le_of_ble_eq_true rfl) rfl trivial (fun wR hR => ?_)
  obtain ⟨q5, r5, rfl⟩ := hR
  show WL X g RX4 1 cX4_init 41 [(0, .ref o)] [.ref a4, .ref o] w0 ((o, .inr (4, [.ref a1, .ref a2, .null, .null])) :: (a1, .inl ((lk g).1, 3, .inl st3)) :: (tabW (lk g) a2 4 5 q3 5 r3 ++ tabW (lk g) a4 6 3 q5 3 r5)) 15 57
  refine l_put (j := 0) (fs := [.ref a1, .ref a2, .null, .null]) (w' := (o, .inr (4, [.ref a1, .ref a2, .ref a4, .null])) :: (a1, .inl ((lk g).1, 3, .inl st3)) :: (tabW (lk g) a2 4 5 q3 5 r3 ++ tabW (lk g) a4 6 3 q5 3 r5)) hq.2.2.2.1 rfl cl_X4_32 cq_X4_2 dX4_init_41 rfl rfl (Nat.le_of_ble_eq_true rfl) ⟨rfl, rfl⟩ rfl ?_
  refine l_aload_n 0 dX4_init_44 rfl rfl rfl ?_
  refine l_new (fs := [.null, .int 0, .int 0]) cn_X4_23 dX4_init_45 rfl (by decide +kernel) (by rw [hq.2.2.2.2]; exact Nat.le_of_ble_eq_true rfl) (by rw [hq.2.2.2.2]; exact Nat.le_of_ble_eq_true rfl) (fun a6 => ?_)
  refine l_dup dX4_init_48 rfl ?_
  refine l_bipush (v := 8) dX4_init_49 rfl (by decide) ?_
  refine l_iconst (v := 4) dX4_init_51 rfl (by decide) ?_
  refine l_call (a := a6) (As := [.int 8, .int 4]) (rest := [.ref a6, .ref o]) (v := (o, .inr (4, [.ref a1, .ref a2, .ref a4, .null])) :: (a1, .inl ((lk g).1, 3, .inl st3)) :: (tabW (lk g) a2 4 5 q3 5 r3 ++ tabW (lk g) a4 6 3 q5 3 r5)) (x := (a6, .inr (6, [.null, .int 0, .int 0]))) cs_X6_init ci_X4_25 (i_X6_8_4 (lk g) a6) rfl (by rw [hq.2.2.2.2]; exact Nat.le_of_ble_eq_true rfl) (by rw [hq.2.2.2.2]; exact Nat.le_of_ble_eq_true rfl) (by rw [hq.2.2.2.2]; exact Nat.le_of_ble_eq_true rfl) (by rw [hq.2.2.2.2]; exact Nat.le_of_ble_eq_true rfl) dX4_init_52 rfl rfl rfl (Nat.le_of_ble_eq_true rfl) rfl trivial (fun wR hR => ?_)
  obtain ⟨q7, r7, rfl⟩ := hR
  show WL X g RX4 1 cX4_init 55 [(0, .ref o)] [.ref a6, .ref o] w0 ((o, .inr (4, [.ref a1, .ref a2, .ref a4, .null])) :: (a1, .inl ((lk g).1, 3, .inl st3)) :: ((tabW (lk g) a2 4 5 q3 5 r3 ++ tabW (lk g) a4 6 3 q5 3 r5) ++ tabW (lk g) a6 8 4 q7 4 r7)) 25 100
  refine l_put (j := 0) (fs := [.ref a1, .ref a2, .ref a4, .null]) (w' := (o, .inr (4, [.ref a1, .ref a2, .ref a4, .ref a6])) :: (a1, .inl ((lk g).1, 3, .inl st3)) :: ((tabW (lk g) a2 4 5 q3 5 r3 ++ tabW (lk g) a4 6 3 q5 3 r5) ++ tabW (lk g) a6 8 4 q7 4 r7)) hq.2.2.2.1 rfl cl_X4_35 cq_X4_3 dX4_init_55 rfl rfl (Nat.le_of_ble_eq_true rfl) ⟨rfl, rfl⟩ rfl ?_
  exact l_vret hq dX4_init_58 ⟨_, _, _, _, _, _, _, _, _, _, rfl⟩
abbrev e_hand (t : Nat) : va_E := .inr (1, [.ref t, .int 0, .int 0, .int 0, .int 0, .int 0, .int 0, .int 0, .int 0])
theorem mo_X1_3 : MO RX1 3 := ⟨mem0 (i := 141) (by decide +kernel) rfl, mem0 (i := 65) (by decide +kernel) rfl, mem0 (i := 66) (by decide +kernel) rfl⟩
theorem cq_X1_0 : CLq TX1 tyX1 9 0 (.object "BallInCup$Table") := ⟨tyX1_ok, nmX1, by decide +kernel⟩
set_option maxHeartbeats 4000000 in
set_option maxRecDepth 100000 in
theorem i_X1 (ks : KS) (o t : Nat) : ConI yX1_init cX1_init 2 1 0 0 [.ref o, .ref t] (o, .inr (1, [.null, .int 0, .int 0, .int 0, .int 0, .int 0, .int 0, .int 0, .int 0])) (fun _ => True) ks (fun w => w = [(o, e_hand t)]) := by
  refine con_i (by decide) rfl rfl (Nat.le_of_ble_eq_true rfl) (fun X g w0 hw hks hq => ?_)
  subst hks
  show WL X g RX1 2 cX1_init 0 [(0, .ref o), (1, .ref t)] [] w0 [(o, .inr (1, [.null, .int 0, .int 0, .int 0, .int 0, .int 0, .int 0, .int 0, .int 0]))] 0 0
  refine l_aload_n 0 dX1_init_0 rfl rfl rfl ?_
  refine l_obj mo_X1_3 dX1_init_1 rfl (by rw [hq.2.2.2.2]; exact Nat.le_of_ble_eq_true rfl) (by rw [hq.2.2.2.2]; exact Nat.le_of_ble_eq_true rfl) ?_
  refine l_aload_n 0 dX1_init_4 rfl rfl rfl ?_
  refine l_aload_n 1 dX1_init_5 rfl rfl rfl ?_
  refine l_put (j := 0) (fs := [.null, .int 0, .int 0, .int 0, .int 0, .int 0, .int 0, .int 0, .int 0]) (w' := [(o, .inr (1, [.ref t, .int 0, .int 0, .int 0, .int 0, .int 0, .int 0, .int 0, .int 0]))]) hq.2.2.2.1 rfl cl_X1_9 cq_X1_0 dX1_init_6 rfl rfl (Nat.le_of_ble_eq_true rfl) ⟨rfl, rfl⟩ rfl ?_
  exact l_vret hq dX1_init_9 rfl
abbrev e_try (s h : Nat) : va_E := .inr (7, [.ref s, .ref h, .int 0, .int 0, .int 0, .int 0, .int 0, .int 0, .int 0, .int 0, .int 0, .int 0, .int 0, .int 0, .int 0, .int 0, .int 0])
def tryW (o s h t : Nat) : va_W := [(o, e_try s h), (h, e_hand t)]
theorem mo_X7_3 : MO RX7 3 := ⟨mem0 (i := 135) (by decide +kernel) rfl, mem0 (i := 65) (by decide +kernel) rfl, mem0 (i := 66) (by decide +kernel) rfl⟩
theorem cq_X7_0 : CLq TX7 tyX7 17 0 (.object "BallInCup$Setup") := ⟨tyX7_ok, nmX7, by decide +kernel⟩
theorem cn_X7_15 : CN RX7 RX1 TX1 tyX1 9 1 15 := ⟨rfl, in_X1, tyX1_ok, mem0 (i := 136) (by decide +kernel) rfl, mem0 (i := 137) (by decide +kernel) rfl, mem0 (i := 50) (by decide +kernel) rfl⟩
theorem ci_X7_23 : CSI RX7 23 yX1_init := ⟨mem0 (i := 138) (by decide +kernel) rfl, mem0 (i := 139) (by decide +kernel) rfl⟩
theorem cq_X7_1 : CLq TX7 tyX7 17 1 (.object "BallInCup$Hand") := ⟨tyX7_ok, nmX7, by decide +kernel⟩
set_option maxHeartbeats 4000000 in
set_option maxRecDepth 100000 in
theorem i_X7 (ks : KS) (o s a t1 t2 t3 p : Nat) : ConI yX7_init cX7_init 2 2 1 9 [.ref o, .ref s] (o, .inr (7, [.null, .null, .int 0, .int 0, .int 0, .int 0, .int 0, .int 0, .int 0, .int 0, .int 0, .int 0, .int 0, .int 0, .int 0, .int 0, .int 0])) (fun w0 => w0[p]? = some (s, e_set a t1 t2 t3)) ks (fun w => ∃ h, w = tryW o s h t2) := by
  refine con_i (by decide) rfl rfl (Nat.le_of_ble_eq_true rfl) (fun X g w0 hw hks hq => ?_)
  subst hks
  show WL X g RX7 2 cX7_init 0 [(0, .ref o), (1, .ref s)] [] w0 [(o, .inr (7, [.null, .null, .int 0, .int 0, .int 0, .int 0, .int 0, .int 0, .int 0, .int 0, .int 0, .int 0, .int 0, .int 0, .int 0, .int 0, .int 0]))] 0 0
  refine l_aload_n 0 dX7_init_0 rfl rfl rfl ?_
  refine l_obj mo_X7_3 dX7_init_1 rfl (by rw [hq.2.2.2.2]; exact Nat.le_of_ble_eq_true rfl) (by rw [hq.2.2.2.2]; exact Nat.le_of_ble_eq_true rfl) ?_
  refine l_aload_n 0 dX7_init_4 rfl rfl rfl ?_
  refine l_aload_n 1 dX7_init_5 rfl rfl rfl ?_
  refine l_put (j := 0) (fs := [.null, .null, .int 0, .int 0, .int 0, .int 0, .int 0, .int 0, .int 0, .int 0, .int 0, .int 0, .int 0, .int 0, .int 0, .int 0, .int 0]) (w' := [(o, .inr (7, [.ref s, .null, .int 0, .int 0, .int 0, .int 0, .int 0, .int 0, .int 0, .int 0, .int 0, .int 0, .int 0, .int 0, .int 0, .int 0, .int 0]))]) hq.2.2.2.1 rfl cl_X7_9 cq_X7_0 dX7_init_6 rfl rfl (Nat.le_of_ble_eq_true rfl) ⟨rfl, rfl⟩ rfl ?_
  refine l_aload_n 0 dX7_init_9 rfl rfl rfl ?_
  refine l_new (fs := [.null, .int 0, .int 0, .int 0, .int 0, .int 0, .int 0, .int 0, .int 0]) cn_X7_15 dX7_init_10 rfl (by decide +kernel) (by rw [hq.2.2.2.2]; exact Nat.le_of_ble_eq_true rfl) (by rw [hq.2.2.2.2]; exact Nat.le_of_ble_eq_true rfl) (fun a1 => ?_)
  refine l_dup dX7_init_13 rfl ?_
  refine l_aload_n 1 dX7_init_14 rfl rfl rfl ?_
  refine l_get (p := p) cl_X7_17 dX7_init_15 rfl (at_l hw) rfl ?_
  refine l_call (a := a1) (As := [.ref t2]) (rest := [.ref a1, .ref o]) (v := [(o, .inr (7, [.ref s, .null, .int 0, .int 0, .int 0, .int 0, .int 0, .int 0, .int 0, .int 0, .int 0, .int 0, .int 0, .int 0, .int 0, .int 0, .int 0]))]) (x := (a1, .inr (1, [.null, .int 0, .int 0, .int 0, .int 0, .int 0, .int 0, .int 0, .int 0]))) cs_X1_init ci_X7_23 (i_X1 (lk g) a1 t2) rfl (by rw [hq.2.2.2.2]; exact Nat.le_of_ble_eq_true rfl) (by rw [hq.2.2.2.2]; exact Nat.le_of_ble_eq_true rfl) (by rw [hq.2.2.2.2]; exact Nat.le_of_ble_eq_true rfl) (by rw [hq.2.2.2.2]; exact Nat.le_of_ble_eq_true rfl) dX7_init_18 rfl rfl rfl (Nat.le_of_ble_eq_true rfl) rfl trivial (fun wR hR => ?_)
  subst hR
  show WL X g RX7 2 cX7_init 21 [(0, .ref o), (1, .ref s)] [.ref a1, .ref o] w0 ([(o, .inr (7, [.ref s, .null, .int 0, .int 0, .int 0, .int 0, .int 0, .int 0, .int 0, .int 0, .int 0, .int 0, .int 0, .int 0, .int 0, .int 0, .int 0])), (a1, e_hand t2)]) 1 9
  refine l_put (j := 0) (fs := [.ref s, .null, .int 0, .int 0, .int 0, .int 0, .int 0, .int 0, .int 0, .int 0, .int 0, .int 0, .int 0, .int 0, .int 0, .int 0, .int 0]) (w' := [(o, .inr (7, [.ref s, .ref a1, .int 0, .int 0, .int 0, .int 0, .int 0, .int 0, .int 0, .int 0, .int 0, .int 0, .int 0, .int 0, .int 0, .int 0, .int 0])), (a1, e_hand t2)]) hq.2.2.2.1 rfl cl_X7_26 cq_X7_1 dX7_init_21 rfl rfl (Nat.le_of_ble_eq_true rfl) ⟨rfl, rfl⟩ rfl ?_
  exact l_vret hq dX7_init_24 ⟨_, rfl⟩
def grW (ks : KS) (o a b c : Nat) : va_W := [(o, .inr (0, [.ref a, .ref b, .ref c, .int 0, .int 0])), (a, .inl (ks.1, 90, .inl (fun _ => 0))), (b, .inl (ks.2.1, 90, .inl (fun _ => 0))), (c, .inl (ks.1, 90, .inl (fun _ => 0)))]
theorem mo_X0_1 : MO RX0 1 := ⟨mem0 (i := 245) (by decide +kernel) rfl, mem0 (i := 65) (by decide +kernel) rfl, mem0 (i := 66) (by decide +kernel) rfl⟩
theorem cq_X0_0 : CLq TX0 tyX0 5 0 (.array .int) := ⟨tyX0_ok, nmX0, by decide +kernel⟩
theorem cq_X0_1 : CLq TX0 tyX0 5 1 (.array .boolean) := ⟨tyX0_ok, nmX0, by decide +kernel⟩
theorem cq_X0_2 : CLq TX0 tyX0 5 2 (.array .int) := ⟨tyX0_ok, nmX0, by decide +kernel⟩
set_option maxHeartbeats 4000000 in
set_option maxRecDepth 100000 in
theorem i_X0 (ks : KS) (o : Nat) : ConI yX0_init cX0_init 1 1 3 270 [.ref o] (o, .inr (0, [.null, .null, .null, .int 0, .int 0])) (fun _ => True) ks (fun w => ∃ a b c, w = grW ks o a b c) := by
  refine con_i (by decide) rfl rfl (Nat.le_of_ble_eq_true rfl) (fun X g w0 hw hks hq => ?_)
  subst hks
  show WL X g RX0 1 cX0_init 0 [(0, .ref o)] [] w0 [(o, .inr (0, [.null, .null, .null, .int 0, .int 0]))] 0 0
  refine l_aload_n 0 dX0_init_0 rfl rfl rfl ?_
  refine l_obj mo_X0_1 dX0_init_1 rfl (by rw [hq.2.2.2.2]; exact Nat.le_of_ble_eq_true rfl) (by rw [hq.2.2.2.2]; exact Nat.le_of_ble_eq_true rfl) ?_
  refine l_aload_n 0 dX0_init_4 rfl rfl rfl ?_
  refine l_bipush (v := 90) dX0_init_5 rfl (by decide) ?_
  refine l_newa (N := 90) ac_int dX0_init_7 rfl (by decide) (by decide) (by decide) (by rw [hq.2.2.2.2]; exact Nat.le_of_ble_eq_true rfl) (by rw [hq.2.2.2.2]; exact Nat.le_of_ble_eq_true rfl) (fun a1 => ?_)
  show WL X g RX0 1 cX0_init 9 [(0, .ref o)] [.ref a1, .ref o] w0 ([(o, .inr (0, [.null, .null, .null, .int 0, .int 0])), (a1, .inl ((lk g).1, 90, .inl (fun _ => 0)))]) 1 90
  refine l_put (j := 0) (fs := [.null, .null, .null, .int 0, .int 0]) (w' := [(o, .inr (0, [.ref a1, .null, .null, .int 0, .int 0])), (a1, .inl ((lk g).1, 90, .inl (fun _ => 0)))]) hq.2.2.2.1 rfl cl_X0_9 cq_X0_0 dX0_init_9 rfl rfl (Nat.le_of_ble_eq_true rfl) ⟨rfl, rfl⟩ rfl ?_
  refine l_aload_n 0 dX0_init_12 rfl rfl rfl ?_
  refine l_bipush (v := 90) dX0_init_13 rfl (by decide) ?_
  refine l_newz (N := 90) ac_boo dX0_init_15 rfl (by decide) (by decide) (by decide) (by rw [hq.2.2.2.2]; exact Nat.le_of_ble_eq_true rfl) (by rw [hq.2.2.2.2]; exact Nat.le_of_ble_eq_true rfl) (fun a2 => ?_)
  show WL X g RX0 1 cX0_init 17 [(0, .ref o)] [.ref a2, .ref o] w0 ([(o, .inr (0, [.ref a1, .null, .null, .int 0, .int 0])), (a1, .inl ((lk g).1, 90, .inl (fun _ => 0))), (a2, .inl ((lk g).2.1, 90, .inl (fun _ => 0)))]) 2 180
  refine l_put (j := 0) (fs := [.ref a1, .null, .null, .int 0, .int 0]) (w' := [(o, .inr (0, [.ref a1, .ref a2, .null, .int 0, .int 0])), (a1, .inl ((lk g).1, 90, .inl (fun _ => 0))), (a2, .inl ((lk g).2.1, 90, .inl (fun _ => 0)))]) hq.2.2.2.1 rfl cl_X0_13 cq_X0_1 dX0_init_17 rfl rfl (Nat.le_of_ble_eq_true rfl) ⟨rfl, rfl⟩ rfl ?_
  refine l_aload_n 0 dX0_init_20 rfl rfl rfl ?_
  refine l_bipush (v := 90) dX0_init_21 rfl (by decide) ?_
  refine l_newa (N := 90) ac_int dX0_init_23 rfl (by decide) (by decide) (by decide) (by rw [hq.2.2.2.2]; exact Nat.le_of_ble_eq_true rfl) (by rw [hq.2.2.2.2]; exact Nat.le_of_ble_eq_true rfl) (fun a3 => ?_)
  show WL X g RX0 1 cX0_init 25 [(0, .ref o)] [.ref a3, .ref o] w0 ([(o, .inr (0, [.ref a1, .ref a2, .null, .int 0, .int 0])), (a1, .inl ((lk g).1, 90, .inl (fun _ => 0))), (a2, .inl ((lk g).2.1, 90, .inl (fun _ => 0))), (a3, .inl ((lk g).1, 90, .inl (fun _ => 0)))]) 3 270
  refine l_put (j := 0) (fs := [.ref a1, .ref a2, .null, .int 0, .int 0]) (w' := [(o, .inr (0, [.ref a1, .ref a2, .ref a3, .int 0, .int 0])), (a1, .inl ((lk g).1, 90, .inl (fun _ => 0))), (a2, .inl ((lk g).2.1, 90, .inl (fun _ => 0))), (a3, .inl ((lk g).1, 90, .inl (fun _ => 0)))]) hq.2.2.2.1 rfl cl_X0_17 cq_X0_2 dX0_init_25 rfl rfl (Nat.le_of_ble_eq_true rfl) ⟨rfl, rfl⟩ rfl ?_
  exact l_vret hq dX0_init_28 ⟨_, _, _, rfl⟩
def plW (ks : KS) (o q : Nat) (r : Nat → Nat) : va_W := (o, .inr (2, [.ref q])) :: l_rows ks 9 181 q r
theorem mo_X2_3 : MO RX2 3 := ⟨mem0 (i := 270) (by decide +kernel) rfl, mem0 (i := 65) (by decide +kernel) rfl, mem0 (i := 66) (by decide +kernel) rfl⟩
theorem cq_X2_0 : CLq TX2 tyX2 1 0 (.array (.array .int)) := ⟨tyX2_ok, nmX2, by decide +kernel⟩
set_option maxHeartbeats 4000000 in
set_option maxRecDepth 100000 in
theorem i_X2 (ks : KS) (o : Nat) : ConI yX2_init cX2_init 1 1 10 1638 [.ref o] (o, .inr (2, [.null])) (fun _ => True) ks (fun w => ∃ q r, w = plW ks o q r) := by
  refine con_i (by decide) rfl rfl (Nat.le_of_ble_eq_true rfl) (fun X g w0 hw hks hq => ?_)
  subst hks
  show WL X g RX2 1 cX2_init 0 [(0, .ref o)] [] w0 [(o, .inr (2, [.null]))] 0 0
  refine l_aload_n 0 dX2_init_0 rfl rfl rfl ?_
  refine l_obj mo_X2_3 dX2_init_1 rfl (by rw [hq.2.2.2.2]; exact Nat.le_of_ble_eq_true rfl) (by rw [hq.2.2.2.2]; exact Nat.le_of_ble_eq_true rfl) ?_
  refine l_aload_n 0 dX2_init_4 rfl rfl rfl ?_
  refine l_bipush (v := 9) dX2_init_5 rfl (by decide) ?_
  refine l_sipush (v := 181) dX2_init_7 rfl (by decide) ?_
  refine l_mna (N := 9) (K := 181) (mem0 (i := 271) (by decide +kernel) rfl) ac_int dX2_init_10 rfl (by decide) (by decide) (by decide) (by decide) (by decide) (by decide) (by rw [hq.2.2.2.2]; exact Nat.le_of_ble_eq_true rfl) (by rw [hq.2.2.2.2]; exact Nat.le_of_ble_eq_true rfl) (fun a1 r1 => ?_)
  show WL X g RX2 1 cX2_init 14 [(0, .ref o)] [.ref a1, .ref o] w0 ((o, .inr (2, [.null])) :: (l_rows (lk g) 9 181 a1 r1)) 10 1638
  refine l_put (j := 0) (fs := [.null]) (w' := (o, .inr (2, [.ref a1])) :: (l_rows (lk g) 9 181 a1 r1)) hq.2.2.2.1 rfl cl_X2_11 cq_X2_0 dX2_init_14 rfl rfl (Nat.le_of_ble_eq_true rfl) ⟨rfl, rfl⟩ rfl ?_
  exact l_vret hq dX2_init_17 ⟨_, _, rfl⟩
def rdW (ks : KS) (o a t1 q1 : Nat) (r1 : Nat → Nat) (t2 q2 : Nat) (r2 : Nat → Nat) : va_W := (o, .inr (3, [.ref a, .int 0, .int 0, .int 0, .ref t1, .ref t2])) :: (a, .inl (ks.1, 60, .inl (fun _ => 0))) :: (tabW ks t1 4 5 q1 5 r1 ++ tabW ks t2 6 3 q2 3 r2)
theorem mo_X3_3 : MO RX3 3 := ⟨mem0 (i := 281) (by decide +kernel) rfl, mem0 (i := 65) (by decide +kernel) rfl, mem0 (i := 66) (by decide +kernel) rfl⟩
theorem cq_X3_0 : CLq TX3 tyX3 6 0 (.array .int) := ⟨tyX3_ok, nmX3, by decide +kernel⟩
theorem cn_X3_15 : CN RX3 RX6 TX6 tyX6 3 6 15 := ⟨rfl, in_X6, tyX6_ok, mem0 (i := 282) (by decide +kernel) rfl, mem0 (i := 83) (by decide +kernel) rfl, mem0 (i := 47) (by decide +kernel) rfl⟩
theorem ci_X3_17 : CSI RX3 17 yX6_init := ⟨mem0 (i := 283) (by decide +kernel) rfl, mem0 (i := 85) (by decide +kernel) rfl⟩
theorem cq_X3_4 : CLq TX3 tyX3 6 4 (.object "BallInCup$Table") := ⟨tyX3_ok, nmX3, by decide +kernel⟩
theorem cq_X3_5 : CLq TX3 tyX3 6 5 (.object "BallInCup$Table") := ⟨tyX3_ok, nmX3, by decide +kernel⟩
set_option maxHeartbeats 4000000 in
set_option maxRecDepth 100000 in
theorem i_X3 (ks : KS) (o : Nat) : ConI yX3_init cX3_init 1 2 15 114 [.ref o] (o, .inr (3, [.null, .int 0, .int 0, .int 0, .null, .null])) (fun _ => True) ks (fun w => ∃ a t1 q1 r1 t2 q2 r2, w = rdW ks o a t1 q1 r1 t2 q2 r2) := by
  refine con_i (by decide) rfl rfl (Nat.le_of_ble_eq_true rfl) (fun X g w0 hw hks hq => ?_)
  subst hks
  show WL X g RX3 1 cX3_init 0 [(0, .ref o)] [] w0 [(o, .inr (3, [.null, .int 0, .int 0, .int 0, .null, .null]))] 0 0
  refine l_aload_n 0 dX3_init_0 rfl rfl rfl ?_
  refine l_obj mo_X3_3 dX3_init_1 rfl (by rw [hq.2.2.2.2]; exact Nat.le_of_ble_eq_true rfl) (by rw [hq.2.2.2.2]; exact Nat.le_of_ble_eq_true rfl) ?_
  refine l_aload_n 0 dX3_init_4 rfl rfl rfl ?_
  refine l_bipush (v := 60) dX3_init_5 rfl (by decide) ?_
  refine l_newa (N := 60) ac_int dX3_init_7 rfl (by decide) (by decide) (by decide) (by rw [hq.2.2.2.2]; exact Nat.le_of_ble_eq_true rfl) (by rw [hq.2.2.2.2]; exact Nat.le_of_ble_eq_true rfl) (fun a1 => ?_)
  show WL X g RX3 1 cX3_init 9 [(0, .ref o)] [.ref a1, .ref o] w0 ([(o, .inr (3, [.null, .int 0, .int 0, .int 0, .null, .null])), (a1, .inl ((lk g).1, 60, .inl (fun _ => 0)))]) 1 60
  refine l_put (j := 0) (fs := [.null, .int 0, .int 0, .int 0, .null, .null]) (w' := [(o, .inr (3, [.ref a1, .int 0, .int 0, .int 0, .null, .null])), (a1, .inl ((lk g).1, 60, .inl (fun _ => 0)))]) hq.2.2.2.1 rfl cl_X3_9 cq_X3_0 dX3_init_9 rfl rfl (Nat.le_of_ble_eq_true rfl) ⟨rfl, rfl⟩ rfl ?_
  refine l_aload_n 0 dX3_init_12 rfl rfl rfl ?_
  refine l_new (fs := [.null, .int 0, .int 0]) cn_X3_15 dX3_init_13 rfl (by decide +kernel) (by rw [hq.2.2.2.2]; exact Nat.le_of_ble_eq_true rfl) (by rw [hq.2.2.2.2]; exact Nat.le_of_ble_eq_true rfl) (fun a2 => ?_)
  refine l_dup dX3_init_16 rfl ?_
  refine l_iconst (v := 4) dX3_init_17 rfl (by decide) ?_
  refine l_iconst (v := 5) dX3_init_18 rfl (by decide) ?_
  refine l_call (a := a2) (As := [.int 4, .int 5]) (rest := [.ref a2, .ref o]) (v := [(o, .inr (3, [.ref a1, .int 0, .int 0, .int 0, .null, .null])), (a1, .inl ((lk g).1, 60, .inl (fun _ => 0)))]) (x := (a2, .inr (6, [.null, .int 0, .int 0]))) cs_X6_init ci_X3_17 (i_X6_4_5 (lk g) a2) rfl (by rw [hq.2.2.2.2]; exact Nat.le_of_ble_eq_true rfl) (by rw [hq.2.2.2.2]; exact Nat.le_of_ble_eq_true rfl) (by rw [hq.2.2.2.2]; exact Nat.le_of_ble_eq_true rfl) (by rw [hq.2.2.2.2]; exact Nat.le_of_ble_eq_true rfl) dX3_init_19 rfl rfl rfl (Nat.le_of_ble_eq_true rfl) rfl trivial (fun wR hR => ?_)
  obtain ⟨q3, r3, rfl⟩ := hR
  show WL X g RX3 1 cX3_init 22 [(0, .ref o)] [.ref a2, .ref o] w0 ((o, .inr (3, [.ref a1, .int 0, .int 0, .int 0, .null, .null])) :: (a1, .inl ((lk g).1, 60, .inl (fun _ => 0))) :: (tabW (lk g) a2 4 5 q3 5 r3)) 7 87
  refine l_put (j := 0) (fs := [.ref a1, .int 0, .int 0, .int 0, .null, .null]) (w' := (o, .inr (3, [.ref a1, .int 0, .int 0, .int 0, .ref a2, .null])) :: (a1, .inl ((lk g).1, 60, .inl (fun _ => 0))) :: (tabW (lk g) a2 4 5 q3 5 r3)) hq.2.2.2.1 rfl cl_X3_20 cq_X3_4 dX3_init_22 rfl rfl (Nat.le_of_ble_eq_true rfl) ⟨rfl, rfl⟩ rfl ?_
  refine l_aload_n 0 dX3_init_25 rfl rfl rfl ?_
  refine l_new (fs := [.null, .int 0, .int 0]) cn_X3_15 dX3_init_26 rfl (by decide +kernel) (by rw [hq.2.2.2.2]; exact Nat.le_of_ble_eq_true rfl) (by rw [hq.2.2.2.2]; exact Nat.le_of_ble_eq_true rfl) (fun a4 => ?_)
  refine l_dup dX3_init_29 rfl ?_
  refine l_bipush (v := 6) dX3_init_30 rfl (by decide) ?_
  refine l_iconst (v := 3) dX3_init_32 rfl (by decide) ?_
  refine l_call (a := a4) (As := [.int 6, .int 3]) (rest := [.ref a4, .ref o]) (v := (o, .inr (3, [.ref a1, .int 0, .int 0, .int 0, .ref a2, .null])) :: (a1, .inl ((lk g).1, 60, .inl (fun _ => 0))) :: (tabW (lk g) a2 4 5 q3 5 r3)) (x := (a4, .inr (6, [.null, .int 0, .int 0]))) cs_X6_init ci_X3_17 (i_X6_6_3 (lk g) a4) rfl (by rw [hq.2.2.2.2]; exact Nat.le_of_ble_eq_true rfl) (by rw [hq.2.2.2.2]; exact Nat.le_of_ble_eq_true rfl) (by rw [hq.2.2.2.2]; exact Nat.le_of_ble_eq_true rfl) (by rw [hq.2.2.2.2]; exact Nat.le_of_ble_eq_true rfl) dX3_init_33 rfl rfl rfl (Nat.le_of_ble_eq_true rfl) rfl trivial (fun wR hR => ?_)
  obtain ⟨q5, r5, rfl⟩ := hR
  show WL X g RX3 1 cX3_init 36 [(0, .ref o)] [.ref a4, .ref o] w0 ((o, .inr (3, [.ref a1, .int 0, .int 0, .int 0, .ref a2, .null])) :: (a1, .inl ((lk g).1, 60, .inl (fun _ => 0))) :: (tabW (lk g) a2 4 5 q3 5 r3 ++ tabW (lk g) a4 6 3 q5 3 r5)) 15 114
  refine l_put (j := 0) (fs := [.ref a1, .int 0, .int 0, .int 0, .ref a2, .null]) (w' := (o, .inr (3, [.ref a1, .int 0, .int 0, .int 0, .ref a2, .ref a4])) :: (a1, .inl ((lk g).1, 60, .inl (fun _ => 0))) :: (tabW (lk g) a2 4 5 q3 5 r3 ++ tabW (lk g) a4 6 3 q5 3 r5)) hq.2.2.2.1 rfl cl_X3_24 cq_X3_5 dX3_init_36 rfl rfl (Nat.le_of_ble_eq_true rfl) ⟨rfl, rfl⟩ rfl ?_
  exact l_vret hq dX3_init_39 ⟨_, _, _, _, _, _, _, rfl⟩
def neg4 : Nat → Int32 := upd (upd (upd (upd (fun _ => 0) 0 (-1)) 1 (-1)) 2 (-1)) 3 (-1)
def shW (ks : KS) (o a b q : Nat) (r : Nat → Nat) : va_W := (o, .inr (5, [.ref a, .ref b, .ref q])) :: (a, .inl (ks.1, 4, .inl (fun _ => 0))) :: (b, .inl (ks.1, 4, .inl neg4)) :: l_rows ks 4 24 q r
theorem mo_X5_3 : MO RX5 3 := ⟨mem0 (i := 311) (by decide +kernel) rfl, mem0 (i := 65) (by decide +kernel) rfl, mem0 (i := 66) (by decide +kernel) rfl⟩
theorem cq_X5_0 : CLq TX5 tyX5 3 0 (.array .int) := ⟨tyX5_ok, nmX5, by decide +kernel⟩
theorem cq_X5_1 : CLq TX5 tyX5 3 1 (.array .int) := ⟨tyX5_ok, nmX5, by decide +kernel⟩
theorem cq_X5_2 : CLq TX5 tyX5 3 2 (.array (.array .int)) := ⟨tyX5_ok, nmX5, by decide +kernel⟩
set_option maxHeartbeats 4000000 in
set_option maxRecDepth 100000 in
theorem i_X5 (ks : KS) (o : Nat) : ConI yX5_init cX5_init 2 1 7 108 [.ref o] (o, .inr (5, [.null, .null, .null])) (fun _ => True) ks (fun w => ∃ a b q r, w = shW ks o a b q r) := by
  refine con_i (by decide) rfl rfl (Nat.le_of_ble_eq_true rfl) (fun X g w0 hw hks hq => ?_)
  subst hks
  show WL X g RX5 2 cX5_init 0 [(0, .ref o)] [] w0 [(o, .inr (5, [.null, .null, .null]))] 0 0
  refine l_aload_n 0 dX5_init_0 rfl rfl rfl ?_
  refine l_obj mo_X5_3 dX5_init_1 rfl (by rw [hq.2.2.2.2]; exact Nat.le_of_ble_eq_true rfl) (by rw [hq.2.2.2.2]; exact Nat.le_of_ble_eq_true rfl) ?_
  refine l_aload_n 0 dX5_init_4 rfl rfl rfl ?_
  refine l_iconst (v := 4) dX5_init_5 rfl (by decide) ?_
  refine l_newa (N := 4) ac_int dX5_init_6 rfl (by decide) (by decide) (by decide) (by rw [hq.2.2.2.2]; exact Nat.le_of_ble_eq_true rfl) (by rw [hq.2.2.2.2]; exact Nat.le_of_ble_eq_true rfl) (fun a1 => ?_)
  show WL X g RX5 2 cX5_init 8 [(0, .ref o)] [.ref a1, .ref o] w0 ([(o, .inr (5, [.null, .null, .null])), (a1, .inl ((lk g).1, 4, .inl (fun _ => 0)))]) 1 4
  refine l_put (j := 0) (fs := [.null, .null, .null]) (w' := [(o, .inr (5, [.ref a1, .null, .null])), (a1, .inl ((lk g).1, 4, .inl (fun _ => 0)))]) hq.2.2.2.1 rfl cl_X5_9 cq_X5_0 dX5_init_8 rfl rfl (Nat.le_of_ble_eq_true rfl) ⟨rfl, rfl⟩ rfl ?_
  refine l_aload_n 0 dX5_init_11 rfl rfl rfl ?_
  refine l_iconst (v := 4) dX5_init_12 rfl (by decide) ?_
  refine l_newa (N := 4) ac_int dX5_init_13 rfl (by decide) (by decide) (by decide) (by rw [hq.2.2.2.2]; exact Nat.le_of_ble_eq_true rfl) (by rw [hq.2.2.2.2]; exact Nat.le_of_ble_eq_true rfl) (fun a2 => ?_)
  show WL X g RX5 2 cX5_init 15 [(0, .ref o)] [.ref a2, .ref o] w0 ([(o, .inr (5, [.ref a1, .null, .null])), (a1, .inl ((lk g).1, 4, .inl (fun _ => 0))), (a2, .inl ((lk g).1, 4, .inl (fun _ => 0)))]) 2 8
  refine l_put (j := 0) (fs := [.ref a1, .null, .null]) (w' := [(o, .inr (5, [.ref a1, .ref a2, .null])), (a1, .inl ((lk g).1, 4, .inl (fun _ => 0))), (a2, .inl ((lk g).1, 4, .inl (fun _ => 0)))]) hq.2.2.2.1 rfl cl_X5_15 cq_X5_1 dX5_init_15 rfl rfl (Nat.le_of_ble_eq_true rfl) ⟨rfl, rfl⟩ rfl ?_
  refine l_aload_n 0 dX5_init_18 rfl rfl rfl ?_
  refine l_iconst (v := 4) dX5_init_19 rfl (by decide) ?_
  refine l_bipush (v := 24) dX5_init_20 rfl (by decide) ?_
  refine l_mna (N := 4) (K := 24) (mem0 (i := 312) (by decide +kernel) rfl) ac_int dX5_init_22 rfl (by decide) (by decide) (by decide) (by decide) (by decide) (by decide) (by rw [hq.2.2.2.2]; exact Nat.le_of_ble_eq_true rfl) (by rw [hq.2.2.2.2]; exact Nat.le_of_ble_eq_true rfl) (fun a3 r3 => ?_)
  show WL X g RX5 2 cX5_init 26 [(0, .ref o)] [.ref a3, .ref o] w0 ((o, .inr (5, [.ref a1, .ref a2, .null])) :: (a1, .inl ((lk g).1, 4, .inl (fun _ => 0))) :: (a2, .inl ((lk g).1, 4, .inl (fun _ => 0))) :: (l_rows (lk g) 4 24 a3 r3)) 7 108
  refine l_put (j := 0) (fs := [.ref a1, .ref a2, .null]) (w' := (o, .inr (5, [.ref a1, .ref a2, .ref a3])) :: (a1, .inl ((lk g).1, 4, .inl (fun _ => 0))) :: (a2, .inl ((lk g).1, 4, .inl (fun _ => 0))) :: (l_rows (lk g) 4 24 a3 r3)) hq.2.2.2.1 rfl cl_X5_20 cq_X5_2 dX5_init_26 rfl rfl (Nat.le_of_ble_eq_true rfl) ⟨rfl, rfl⟩ rfl ?_
  refine l_iconst (v := 0) dX5_init_29 rfl (by decide) ?_
  refine l_istore_n (L' := [(1, .int 0), (0, .ref o)]) dX5_init_30 rfl rfl (by decide) rfl ?_
  refine l_iload_n 0 dX5_init_31 rfl rfl rfl ?_
  refine l_iconst (v := 4) dX5_init_32 rfl (by decide) ?_
  refine l_icmp_ge (tgt := 49) dX5_init_33 (by decide) rfl (fun h9 => absurd h9 (by decide)) (fun _ => ?_)
  refine l_aload_n 1 dX5_init_36 rfl rfl rfl ?_
  refine l_get (p := w0.length + 0) cl_X5_15 dX5_init_37 rfl (at_r rfl) rfl ?_
  refine l_iload_n 0 dX5_init_40 rfl rfl rfl ?_
  refine l_iconst (v := (-1)) dX5_init_41 rfl (by decide) ?_
  refine l_iast (k := 0) (w' := (o, .inr (5, [.ref a1, .ref a2, .ref a3])) :: (a1, .inl ((lk g).1, 4, .inl (fun _ => 0))) :: (a2, .inl ((lk g).1, 4, .inl (upd (fun _ => 0) 0 (-1)))) :: (l_rows (lk g) 4 24 a3 r3)) (j := 2) dX5_init_42 rfl rfl (vp_in_nI (n := 0) (by decide) (by decide)) (by decide) rfl ?_
  refine l_iinc (v := 1) (L' := [(1, .int 1), (0, .ref o)]) 0 dX5_init_43 rfl rfl (by decide) (by decide) rfl ?_
  refine l_goto (tgt := 31) dX5_init_46 (by decide) ?_
  refine l_iload_n 0 dX5_init_31 rfl rfl rfl ?_
  refine l_iconst (v := 4) dX5_init_32 rfl (by decide) ?_
  refine l_icmp_ge (tgt := 49) dX5_init_33 (by decide) rfl (fun h9 => absurd h9 (by decide)) (fun _ => ?_)
  refine l_aload_n 1 dX5_init_36 rfl rfl rfl ?_
  refine l_get (p := w0.length + 0) cl_X5_15 dX5_init_37 rfl (at_r rfl) rfl ?_
  refine l_iload_n 0 dX5_init_40 rfl rfl rfl ?_
  refine l_iconst (v := (-1)) dX5_init_41 rfl (by decide) ?_
  refine l_iast (k := 1) (w' := (o, .inr (5, [.ref a1, .ref a2, .ref a3])) :: (a1, .inl ((lk g).1, 4, .inl (fun _ => 0))) :: (a2, .inl ((lk g).1, 4, .inl (upd (upd (fun _ => 0) 0 (-1)) 1 (-1)))) :: (l_rows (lk g) 4 24 a3 r3)) (j := 2) dX5_init_42 rfl rfl (vp_in_nI (n := 1) (by decide) (by decide)) (by decide) rfl ?_
  refine l_iinc (v := 2) (L' := [(1, .int 2), (0, .ref o)]) 0 dX5_init_43 rfl rfl (by decide) (by decide) rfl ?_
  refine l_goto (tgt := 31) dX5_init_46 (by decide) ?_
  refine l_iload_n 0 dX5_init_31 rfl rfl rfl ?_
  refine l_iconst (v := 4) dX5_init_32 rfl (by decide) ?_
  refine l_icmp_ge (tgt := 49) dX5_init_33 (by decide) rfl (fun h9 => absurd h9 (by decide)) (fun _ => ?_)
  refine l_aload_n 1 dX5_init_36 rfl rfl rfl ?_
  refine l_get (p := w0.length + 0) cl_X5_15 dX5_init_37 rfl (at_r rfl) rfl ?_
  refine l_iload_n 0 dX5_init_40 rfl rfl rfl ?_
  refine l_iconst (v := (-1)) dX5_init_41 rfl (by decide) ?_
  refine l_iast (k := 2) (w' := (o, .inr (5, [.ref a1, .ref a2, .ref a3])) :: (a1, .inl ((lk g).1, 4, .inl (fun _ => 0))) :: (a2, .inl ((lk g).1, 4, .inl (upd (upd (upd (fun _ => 0) 0 (-1)) 1 (-1)) 2 (-1)))) :: (l_rows (lk g) 4 24 a3 r3)) (j := 2) dX5_init_42 rfl rfl (vp_in_nI (n := 2) (by decide) (by decide)) (by decide) rfl ?_
  refine l_iinc (v := 3) (L' := [(1, .int 3), (0, .ref o)]) 0 dX5_init_43 rfl rfl (by decide) (by decide) rfl ?_
  refine l_goto (tgt := 31) dX5_init_46 (by decide) ?_
  refine l_iload_n 0 dX5_init_31 rfl rfl rfl ?_
  refine l_iconst (v := 4) dX5_init_32 rfl (by decide) ?_
  refine l_icmp_ge (tgt := 49) dX5_init_33 (by decide) rfl (fun h9 => absurd h9 (by decide)) (fun _ => ?_)
  refine l_aload_n 1 dX5_init_36 rfl rfl rfl ?_
  refine l_get (p := w0.length + 0) cl_X5_15 dX5_init_37 rfl (at_r rfl) rfl ?_
  refine l_iload_n 0 dX5_init_40 rfl rfl rfl ?_
  refine l_iconst (v := (-1)) dX5_init_41 rfl (by decide) ?_
  refine l_iast (k := 3) (w' := (o, .inr (5, [.ref a1, .ref a2, .ref a3])) :: (a1, .inl ((lk g).1, 4, .inl (fun _ => 0))) :: (a2, .inl ((lk g).1, 4, .inl (upd (upd (upd (upd (fun _ => 0) 0 (-1)) 1 (-1)) 2 (-1)) 3 (-1)))) :: (l_rows (lk g) 4 24 a3 r3)) (j := 2) dX5_init_42 rfl rfl (vp_in_nI (n := 3) (by decide) (by decide)) (by decide) rfl ?_
  refine l_iinc (v := 4) (L' := [(1, .int 4), (0, .ref o)]) 0 dX5_init_43 rfl rfl (by decide) (by decide) rfl ?_
  refine l_goto (tgt := 31) dX5_init_46 (by decide) ?_
  refine l_iload_n 0 dX5_init_31 rfl rfl rfl ?_
  refine l_iconst (v := 4) dX5_init_32 rfl (by decide) ?_
  refine l_icmp_ge (tgt := 49) dX5_init_33 (by decide) rfl (fun _ => ?_) (fun h9 => absurd (by decide) h9)
  exact l_vret hq dX5_init_49 ⟨_, _, _, _, rfl⟩
