/-! ===== public methods: lots, mean, missing ===== -/
def powL (x : Int64) : Nat → Int64
  | 0 => 1
  | k + 1 => powL x k * x
theorem bX6_power_0_5 {l : Launch} {E : XE} : Snd l E mX6_power 0 5 (xs [x_push (.long 1), x_lstore 3, x_push (.int (nI 0)), x_istore 5]) := Snd.cons (snd_lconst (v := 1) dX6_power_0 (by decide)) (Snd.cons (snd_lstore_n (i := 3) dX6_power_1 rfl (by decide)) (Snd.cons (snd_iconst (v := nI 0) dX6_power_2 (by decide)) (Snd.cons (snd_istore dX6_power_3 (by decide)) Snd.nil)))
theorem bX6_power_5_8 {l : Launch} {E : XE} : Snd l E mX6_power 5 8 (xs [x_iload 5, x_iload 2]) := Snd.cons (snd_iload dX6_power_5) (Snd.cons (snd_iload_n (i := 2) dX6_power_7 rfl) Snd.nil)
theorem bX6_power_21_22 {l : Launch} {E : XE} : Snd l E mX6_power 21 22 (xs [x_lload 3]) := Snd.cons (snd_lload_n (i := 3) dX6_power_21 rfl) Snd.nil
theorem bX6_power_11_15 {l : Launch} {E : XE} : Snd l E mX6_power 11 15 (xs [x_lload 3, x_lload 0, x_l2 (fun x y => x * y), x_lstore 3]) := Snd.cons (snd_lload_n (i := 3) dX6_power_11 rfl) (Snd.cons (snd_lload_n (i := 0) dX6_power_12 rfl) (Snd.cons (snd_lmul dX6_power_13) (Snd.cons (snd_lstore_n (i := 3) dX6_power_14 rfl (by decide)) Snd.nil)))
theorem bX6_power_18_5 {l : Launch} {E : XE} : Snd l E mX6_power 18 5 (xs [x_id]) := Snd.cons (snd_goto (tgt := 5) dX6_power_18 (by decide)) Snd.nil
set_option maxHeartbeats 4000000 in
set_option maxRecDepth 100000 in
theorem m_X6_power {l : Launch} {E : XE} (x : Int64) (n : Nat) (hn : n < 100) : MetE l E mX6_power (0) 0 0 [.long (x), .int (nI (n))] ([]) (fun r w' => r = some (.long (powL x n)) ∧ w' = []) := by
  refine MetE.of (by decide +kernel) (Nat.le_of_ble_eq_true rfl) ?_
  refine ev_eq (lv' := [(0, .long (x)), (2, .int (nI (n)))]) (st' := []) (w' := []) rfl rfl rfl ?_
  refine ev_b bX6_power_0_5 (lv' := [(5, .int (nI (0))), (3, .long (1)), (0, .long (x)), (2, .int (nI (n)))]) (st' := []) (w2 := []) rfl ?_
  have L5 : ∀ (j_ k : Nat), k + j_ = n → Ev l E mX6_power (0) 0 0 ([]) (fun r w' => r = some (.long (powL x n)) ∧ w' = []) 0 0 5 [(5, .int (nI (k))), (3, .long (powL x k)), (0, .long (x)), (2, .int (nI (n)))] [] ([]) := by
    intro j_
    induction j_ with
    | zero =>
      intro k hk5  
      replace hk5 : k = n := hk5
      refine ev_b bX6_power_5_8 (lv' := [(5, .int (nI (k))), (3, .long (powL x k)), (0, .long (x)), (2, .int (nI (n)))]) (st' := [.int (nI (n)), .int (nI (k))]) (w2 := []) rfl ?_
      refine ev_icmp_ge_n (tgt := 21) (by omega) (by omega) dX6_power_8 (by decide) (fun h8 => ?_) (fun h8 => (by exfalso; omega))
      refine ev_b bX6_power_21_22 (lv' := [(5, .int (nI (k))), (3, .long (powL x k)), (0, .long (x)), (2, .int (nI (n)))]) (st' := [.long (powL x k)]) (w2 := []) rfl ?_
      exact ev_lret dX6_power_22 rfl (Nat.le_of_ble_eq_true rfl) (Nat.le_refl _) (Nat.le_refl _) ⟨(by rw [hk5]), rfl⟩
    | succ j_ ih5 =>
      intro k hk5  
      have hlt5 : k < n := by omega
      refine ev_b bX6_power_5_8 (lv' := [(5, .int (nI (k))), (3, .long (powL x k)), (0, .long (x)), (2, .int (nI (n)))]) (st' := [.int (nI (n)), .int (nI (k))]) (w2 := []) rfl ?_
      refine ev_icmp_ge_n (tgt := 21) (by omega) (by omega) dX6_power_8 (by decide) (fun h8 => (by exfalso; omega)) (fun h8 => ?_)
      refine ev_b bX6_power_11_15 (lv' := [(3, .long ((powL x k) * x)), (5, .int (nI (k))), (0, .long (x)), (2, .int (nI (n)))]) (st' := []) (w2 := []) rfl ?_
      refine ev_iinc_n (x := k) (v := 1) dX6_power_15 rfl (by decide) ?_
      refine ev_eq (lv' := [(5, .int (nI (k + 1))), (3, .long ((powL x k) * x)), (0, .long (x)), (2, .int (nI (n)))]) rfl rfl rfl ?_
      refine ev_b bX6_power_18_5 (lv' := [(5, .int (nI (k + 1))), (3, .long ((powL x k) * x)), (0, .long (x)), (2, .int (nI (n)))]) (st' := []) (w2 := []) rfl ?_
      rw [show nI (k + 1) = nI ((k + 1)) from congrArg nI (by omega)]
      exact ih5 (k + 1) (by omega) 
  exact L5 n 0 (by omega) 
theorem bX6_lots_0_2 {l : Launch} {E : XE} : Snd l E mX6_lots 0 2 (xs [x_iload 1, x_push (.int (nI 1))]) := Snd.cons (snd_iload_n (i := 1) dX6_lots_0 rfl) (Snd.cons (snd_iconst (v := nI 1) dX6_lots_1 (by decide)) Snd.nil)
theorem bX6_lots_5_8 {l : Launch} {E : XE} : Snd l E mX6_lots 5 8 (xs [x_aload 0, x_push (.int (-4))]) := Snd.cons (snd_aload_n (i := 0) dX6_lots_5 rfl) (Snd.cons (snd_bipush (v := -4) dX6_lots_6 (by decide)) Snd.nil)
set_option maxHeartbeats 4000000 in
set_option maxRecDepth 100000 in
theorem p_lots_4 {l : Launch} {E : XE} (T : TopN) (S P U : SaleN) (O : OutN) (B : BillN) (Q : SeaN) (C : ScrN) (R : PrtN) (tl rf : Nat → Nat) (z1 z2 z3 : Int) (hS : SaleOK S) (hQ : Q.fd < 2147483648) (rz1 : -2147483648 ≤ z1 ∧ z1 < 2147483648) (rz2 : -2147483648 ≤ z2 ∧ z2 < 2147483648) (rz3 : -2147483648 ≤ z3 ∧ z3 < 2147483648) (h : z1 < 1) : MetE l E mX6_lots (1) 0 0 [.ref 0, .int (zI (z1)), .int (zI (z2)), .int (zI (z3))] (compW T S P U O B Q C R tl rf) (CP T S P (C.lt) (C.sz) tl (up rf 4 (rf 4 + 1)) (some (.int (-4)))) := by
  refine MetE.of (by decide +kernel) (Nat.le_of_ble_eq_true rfl) ?_
  have hca := hS.1
  have hpw := pow_ca hS
  have hac := ac_lt hS
  
  refine ev_eq (lv' := [(0, .ref 0), (1, .int (zI (z1))), (2, .int (zI (z2))), (3, .int (zI (z3)))]) (st' := []) (w' := compW T S P U O B Q C R tl rf) rfl rfl rfl ?_
  refine ev_b bX6_lots_0_2 (lv' := [(0, .ref 0), (1, .int (zI (z1))), (2, .int (zI (z2))), (3, .int (zI (z3)))]) (st' := [.int (nI (1)), .int (zI (z1))]) (w2 := compW T S P U O B Q C R tl rf) rfl ?_
  refine ev_top (y := zI (((1 : Nat) : Int))) (zI_nat _).symm ?_
  refine ev_icmp_ge_z (tgt := 12) (by constructor <;> omega) (by constructor <;> omega) dX6_lots_2 (by decide) (fun h2 => (by exfalso; omega)) (fun h2 => ?_)
  refine ev_b bX6_lots_5_8 (lv' := [(0, .ref 0), (1, .int (zI (z1))), (2, .int (zI (z2))), (3, .int (zI (z3)))]) (st' := [.int (-4), .ref 0]) (w2 := compW T S P U O B Q C R tl rf) rfl ?_
  refine ev_callV (Yc := mX6_refuse) (rng 0 49) dX6_lots_8 tw_248 kX6_refuse (m_X6_refuse_4 T S P U O B Q C R tl rf) rfl (st := []) rfl rfl rfl (by decide) comp_hw (by decide) (Nat.le_of_ble_eq_true rfl) (Nat.le_refl _) (Nat.le_refl _) (fun r w' h => by obtain ⟨-, rfl⟩ := h; exact Nat.le_of_ble_eq_true rfl) ?_
  rintro _ _ ⟨rfl, rfl⟩
  refine ev_eq (lv' := [(0, .ref 0), (1, .int (zI (z1))), (2, .int (zI (z2))), (3, .int (zI (z3)))]) (st' := [.int (-4)]) (w' := compW T S P U O B Q C R tl ((up rf 4 (rf 4 + 1)))) rfl rfl comp_xp ?_
  exact ev_iret dX6_lots_11 rfl (Nat.le_refl 49) (Nat.le_refl _) (Nat.le_refl _) ⟨rfl, _, _, _, _, _, _, rfl, hQ, rfl, rfl⟩
theorem bX6_lots_12_15 {l : Launch} {E : XE} : Snd l E mX6_lots 12 15 (xs [x_iload 1, x_push (.int (nI 20))]) := Snd.cons (snd_iload_n (i := 1) dX6_lots_12 rfl) (Snd.cons (snd_bipush (v := nI 20) dX6_lots_13 (by decide)) Snd.nil)
theorem bX6_lots_18_21 {l : Launch} {E : XE} : Snd l E mX6_lots 18 21 (xs [x_aload 0, x_push (.int (-6))]) := Snd.cons (snd_aload_n (i := 0) dX6_lots_18 rfl) (Snd.cons (snd_bipush (v := -6) dX6_lots_19 (by decide)) Snd.nil)
set_option maxHeartbeats 4000000 in
set_option maxRecDepth 100000 in
theorem p_lots_6 {l : Launch} {E : XE} (T : TopN) (S P U : SaleN) (O : OutN) (B : BillN) (Q : SeaN) (C : ScrN) (R : PrtN) (tl rf : Nat → Nat) (z1 z2 z3 : Int) (hS : SaleOK S) (hQ : Q.fd < 2147483648) (rz1 : -2147483648 ≤ z1 ∧ z1 < 2147483648) (rz2 : -2147483648 ≤ z2 ∧ z2 < 2147483648) (rz3 : -2147483648 ≤ z3 ∧ z3 < 2147483648) (h : 20 < z1) : MetE l E mX6_lots (1) 0 0 [.ref 0, .int (zI (z1)), .int (zI (z2)), .int (zI (z3))] (compW T S P U O B Q C R tl rf) (CP T S P (C.lt) (C.sz) tl (up rf 6 (rf 6 + 1)) (some (.int (-6)))) := by
  refine MetE.of (by decide +kernel) (Nat.le_of_ble_eq_true rfl) ?_
  have hca := hS.1
  have hpw := pow_ca hS
  have hac := ac_lt hS
  
  refine ev_eq (lv' := [(0, .ref 0), (1, .int (zI (z1))), (2, .int (zI (z2))), (3, .int (zI (z3)))]) (st' := []) (w' := compW T S P U O B Q C R tl rf) rfl rfl rfl ?_
  refine ev_b bX6_lots_0_2 (lv' := [(0, .ref 0), (1, .int (zI (z1))), (2, .int (zI (z2))), (3, .int (zI (z3)))]) (st' := [.int (nI (1)), .int (zI (z1))]) (w2 := compW T S P U O B Q C R tl rf) rfl ?_
  refine ev_top (y := zI (((1 : Nat) : Int))) (zI_nat _).symm ?_
  refine ev_icmp_ge_z (tgt := 12) (by constructor <;> omega) (by constructor <;> omega) dX6_lots_2 (by decide) (fun h2 => ?_) (fun h2 => (by exfalso; omega))
  refine ev_b bX6_lots_12_15 (lv' := [(0, .ref 0), (1, .int (zI (z1))), (2, .int (zI (z2))), (3, .int (zI (z3)))]) (st' := [.int (nI (20)), .int (zI (z1))]) (w2 := compW T S P U O B Q C R tl rf) rfl ?_
  refine ev_top (y := zI (((20 : Nat) : Int))) (zI_nat _).symm ?_
  refine ev_icmp_le_z (tgt := 25) (by constructor <;> omega) (by constructor <;> omega) dX6_lots_15 (by decide) (fun h15 => (by exfalso; omega)) (fun h15 => ?_)
  refine ev_b bX6_lots_18_21 (lv' := [(0, .ref 0), (1, .int (zI (z1))), (2, .int (zI (z2))), (3, .int (zI (z3)))]) (st' := [.int (-6), .ref 0]) (w2 := compW T S P U O B Q C R tl rf) rfl ?_
  refine ev_callV (Yc := mX6_refuse) (rng 0 49) dX6_lots_21 tw_248 kX6_refuse (m_X6_refuse_6 T S P U O B Q C R tl rf) rfl (st := []) rfl rfl rfl (by decide) comp_hw (by decide) (Nat.le_of_ble_eq_true rfl) (Nat.le_refl _) (Nat.le_refl _) (fun r w' h => by obtain ⟨-, rfl⟩ := h; exact Nat.le_of_ble_eq_true rfl) ?_
  rintro _ _ ⟨rfl, rfl⟩
  refine ev_eq (lv' := [(0, .ref 0), (1, .int (zI (z1))), (2, .int (zI (z2))), (3, .int (zI (z3)))]) (st' := [.int (-6)]) (w' := compW T S P U O B Q C R tl ((up rf 6 (rf 6 + 1)))) rfl rfl comp_xp ?_
  exact ev_iret dX6_lots_24 rfl (Nat.le_refl 49) (Nat.le_refl _) (Nat.le_refl _) ⟨rfl, _, _, _, _, _, _, rfl, hQ, rfl, rfl⟩
theorem bX6_lots_25_26 {l : Launch} {E : XE} : Snd l E mX6_lots 25 26 (xs [x_iload 3]) := Snd.cons (snd_iload_n (i := 3) dX6_lots_25 rfl) Snd.nil
theorem bX6_lots_32_35 {l : Launch} {E : XE} : Snd l E mX6_lots 32 35 (xs [x_aload 0, x_push (.int (-2))]) := Snd.cons (snd_aload_n (i := 0) dX6_lots_32 rfl) (Snd.cons (snd_bipush (v := -2) dX6_lots_33 (by decide)) Snd.nil)
set_option maxHeartbeats 4000000 in
set_option maxRecDepth 100000 in
theorem p_lots_2 {l : Launch} {E : XE} (T : TopN) (S P U : SaleN) (O : OutN) (B : BillN) (Q : SeaN) (C : ScrN) (R : PrtN) (tl rf : Nat → Nat) (z1 z2 z3 : Int) (hS : SaleOK S) (hQ : Q.fd < 2147483648) (rz1 : -2147483648 ≤ z1 ∧ z1 < 2147483648) (rz2 : -2147483648 ≤ z2 ∧ z2 < 2147483648) (rz3 : -2147483648 ≤ z3 ∧ z3 < 2147483648) (h : 1 ≤ z1 ∧ z1 ≤ 20) (h2 : ¬ (z3 = 0 ∨ z3 = 1)) : MetE l E mX6_lots (1) 0 0 [.ref 0, .int (zI (z1)), .int (zI (z2)), .int (zI (z3))] (compW T S P U O B Q C R tl rf) (CP T S P (C.lt) (C.sz) tl (up rf 2 (rf 2 + 1)) (some (.int (-2)))) := by
  refine MetE.of (by decide +kernel) (Nat.le_of_ble_eq_true rfl) ?_
  have hca := hS.1
  have hpw := pow_ca hS
  have hac := ac_lt hS
  
  refine ev_eq (lv' := [(0, .ref 0), (1, .int (zI (z1))), (2, .int (zI (z2))), (3, .int (zI (z3)))]) (st' := []) (w' := compW T S P U O B Q C R tl rf) rfl rfl rfl ?_
  refine ev_b bX6_lots_0_2 (lv' := [(0, .ref 0), (1, .int (zI (z1))), (2, .int (zI (z2))), (3, .int (zI (z3)))]) (st' := [.int (nI (1)), .int (zI (z1))]) (w2 := compW T S P U O B Q C R tl rf) rfl ?_
  refine ev_top (y := zI (((1 : Nat) : Int))) (zI_nat _).symm ?_
  refine ev_icmp_ge_z (tgt := 12) (by constructor <;> omega) (by constructor <;> omega) dX6_lots_2 (by decide) (fun h2 => ?_) (fun h2 => (by exfalso; omega))
  refine ev_b bX6_lots_12_15 (lv' := [(0, .ref 0), (1, .int (zI (z1))), (2, .int (zI (z2))), (3, .int (zI (z3)))]) (st' := [.int (nI (20)), .int (zI (z1))]) (w2 := compW T S P U O B Q C R tl rf) rfl ?_
  refine ev_top (y := zI (((20 : Nat) : Int))) (zI_nat _).symm ?_
  refine ev_icmp_le_z (tgt := 25) (by constructor <;> omega) (by constructor <;> omega) dX6_lots_15 (by decide) (fun h15 => ?_) (fun h15 => (by exfalso; omega))
  refine ev_b bX6_lots_25_26 (lv' := [(0, .ref 0), (1, .int (zI (z1))), (2, .int (zI (z2))), (3, .int (zI (z3)))]) (st' := [.int (zI (z3))]) (w2 := compW T S P U O B Q C R tl rf) rfl ?_
  refine ev_callS (Yc := mX6_isEither) [] dX6_lots_26 tw_667 kX6_isEither (m_X6_isEither_z z3 rz3) rfl (st := []) rfl (by decide) rfl (by decide) (Nat.le_of_ble_eq_true rfl) (Nat.le_refl _) (Nat.le_refl _) (fun r w' h => by obtain ⟨-, rfl⟩ := h; exact Nat.le_of_ble_eq_true rfl) ?_
  rintro _ _ ⟨rfl, rfl⟩
  refine ev_eq (lv' := [(0, .ref 0), (1, .int (zI (z1))), (2, .int (zI (z2))), (3, .int (zI (z3)))]) (st' := [.int (nI (b01 (z3 = 0 ∨ z3 = 1)))]) (w' := compW T S P U O B Q C R tl rf) rfl rfl rfl ?_
  refine ev_ifne_b (tgt := 39) dX6_lots_29 (by decide) (fun h29 => (by exfalso; omega)) (fun h29 => ?_)
  refine ev_b bX6_lots_32_35 (lv' := [(0, .ref 0), (1, .int (zI (z1))), (2, .int (zI (z2))), (3, .int (zI (z3)))]) (st' := [.int (-2), .ref 0]) (w2 := compW T S P U O B Q C R tl rf) rfl ?_
  refine ev_callV (Yc := mX6_refuse) (rng 0 49) dX6_lots_35 tw_248 kX6_refuse (m_X6_refuse_2 T S P U O B Q C R tl rf) rfl (st := []) rfl rfl rfl (by decide) comp_hw (by decide) (Nat.le_of_ble_eq_true rfl) (Nat.le_refl _) (Nat.le_refl _) (fun r w' h => by obtain ⟨-, rfl⟩ := h; exact Nat.le_of_ble_eq_true rfl) ?_
  rintro _ _ ⟨rfl, rfl⟩
  refine ev_eq (lv' := [(0, .ref 0), (1, .int (zI (z1))), (2, .int (zI (z2))), (3, .int (zI (z3)))]) (st' := [.int (-2)]) (w' := compW T S P U O B Q C R tl ((up rf 2 (rf 2 + 1)))) rfl rfl comp_xp ?_
  exact ev_iret dX6_lots_38 rfl (Nat.le_refl 49) (Nat.le_refl _) (Nat.le_refl _) ⟨rfl, _, _, _, _, _, _, rfl, hQ, rfl, rfl⟩
theorem bX6_mean_0_1 {l : Launch} {E : XE} : Snd l E mX6_mean 0 1 (xs [x_iload 1]) := Snd.cons (snd_iload_n (i := 1) dX6_mean_0 rfl) Snd.nil
theorem bX6_mean_14_17 {l : Launch} {E : XE} : Snd l E mX6_mean 14 17 (xs [x_aload 0, x_push (.int (-2))]) := Snd.cons (snd_aload_n (i := 0) dX6_mean_14 rfl) (Snd.cons (snd_bipush (v := -2) dX6_mean_15 (by decide)) Snd.nil)
set_option maxHeartbeats 4000000 in
set_option maxRecDepth 100000 in
theorem p_mean_2a {l : Launch} {E : XE} (T : TopN) (S P U : SaleN) (O : OutN) (B : BillN) (Q : SeaN) (C : ScrN) (R : PrtN) (tl rf : Nat → Nat) (z1 z2 : Int) (hS : SaleOK S) (hQ : Q.fd < 2147483648) (rz1 : -2147483648 ≤ z1 ∧ z1 < 2147483648) (rz2 : -2147483648 ≤ z2 ∧ z2 < 2147483648) (h : ¬ (0 ≤ z1 ∧ z1 < 3)) : MetE l E mX6_mean (2) 0 0 [.ref 0, .int (zI (z1)), .int (zI (z2))] (compW T S P U O B Q C R tl rf) (CP T S P (C.lt) (C.sz) tl (up rf 2 (rf 2 + 1)) (some (.long (4000000000000000000 - (Int32.toInt64 (-2)))))) := by
  refine MetE.of (by decide +kernel) (Nat.le_of_ble_eq_true rfl) ?_
  have hca := hS.1
  have hpw := pow_ca hS
  have hac := ac_lt hS
  
  refine ev_eq (lv' := [(0, .ref 0), (1, .int (zI (z1))), (2, .int (zI (z2)))]) (st' := []) (w' := compW T S P U O B Q C R tl rf) rfl rfl rfl ?_
  refine ev_b bX6_mean_0_1 (lv' := [(0, .ref 0), (1, .int (zI (z1))), (2, .int (zI (z2)))]) (st' := [.int (zI (z1))]) (w2 := compW T S P U O B Q C R tl rf) rfl ?_
  refine ev_callS (Yc := mX6_isHow) [] dX6_mean_1 tw_711 kX6_isHow (m_X6_isHow_z z1 rz1) rfl (st := []) rfl (by decide) rfl (by decide) (Nat.le_of_ble_eq_true rfl) (Nat.le_refl _) (Nat.le_refl _) (fun r w' h => by obtain ⟨-, rfl⟩ := h; exact Nat.le_of_ble_eq_true rfl) ?_
  rintro _ _ ⟨rfl, rfl⟩
  refine ev_eq (lv' := [(0, .ref 0), (1, .int (zI (z1))), (2, .int (zI (z2)))]) (st' := [.int (nI (b01 (0 ≤ z1 ∧ z1 < 3)))]) (w' := compW T S P U O B Q C R tl rf) rfl rfl rfl ?_
  refine ev_ifeq_b (tgt := 14) dX6_mean_4 (by decide) (fun h4 => ?_) (fun h4 => (by exfalso; omega))
  refine ev_b bX6_mean_14_17 (lv' := [(0, .ref 0), (1, .int (zI (z1))), (2, .int (zI (z2)))]) (st' := [.int (-2), .ref 0]) (w2 := compW T S P U O B Q C R tl rf) rfl ?_
  refine ev_callV (Yc := mX6_refuseLong) (rng 0 49) dX6_mean_17 tw_800 kX6_refuseLong (m_X6_refuseLong_2 T S P U O B Q C R tl rf) rfl (st := []) rfl rfl rfl (by decide) comp_hw (by decide) (Nat.le_of_ble_eq_true rfl) (Nat.le_refl _) (Nat.le_refl _) (fun r w' h => by obtain ⟨-, rfl⟩ := h; exact Nat.le_of_ble_eq_true rfl) ?_
  rintro _ _ ⟨rfl, rfl⟩
  refine ev_eq (lv' := [(0, .ref 0), (1, .int (zI (z1))), (2, .int (zI (z2)))]) (st' := [.long (4000000000000000000 - (Int32.toInt64 (-2)))]) (w' := compW T S P U O B Q C R tl ((up rf 2 (rf 2 + 1)))) rfl rfl comp_xp ?_
  exact ev_lret dX6_mean_20 rfl (Nat.le_refl 49) (Nat.le_refl _) (Nat.le_refl _) ⟨rfl, _, _, _, _, _, _, rfl, hQ, rfl, rfl⟩
theorem bX6_mean_7_8 {l : Launch} {E : XE} : Snd l E mX6_mean 7 8 (xs [x_iload 2]) := Snd.cons (snd_iload_n (i := 2) dX6_mean_7 rfl) Snd.nil
set_option maxHeartbeats 4000000 in
set_option maxRecDepth 100000 in
theorem p_mean_2b {l : Launch} {E : XE} (T : TopN) (S P U : SaleN) (O : OutN) (B : BillN) (Q : SeaN) (C : ScrN) (R : PrtN) (tl rf : Nat → Nat) (z1 z2 : Int) (hS : SaleOK S) (hQ : Q.fd < 2147483648) (rz1 : -2147483648 ≤ z1 ∧ z1 < 2147483648) (rz2 : -2147483648 ≤ z2 ∧ z2 < 2147483648) (h : 0 ≤ z1 ∧ z1 < 3) (h2 : ¬ (z2 = 0 ∨ z2 = 1)) : MetE l E mX6_mean (2) 0 0 [.ref 0, .int (zI (z1)), .int (zI (z2))] (compW T S P U O B Q C R tl rf) (CP T S P (C.lt) (C.sz) tl (up rf 2 (rf 2 + 1)) (some (.long (4000000000000000000 - (Int32.toInt64 (-2)))))) := by
  refine MetE.of (by decide +kernel) (Nat.le_of_ble_eq_true rfl) ?_
  have hca := hS.1
  have hpw := pow_ca hS
  have hac := ac_lt hS
  
  refine ev_eq (lv' := [(0, .ref 0), (1, .int (zI (z1))), (2, .int (zI (z2)))]) (st' := []) (w' := compW T S P U O B Q C R tl rf) rfl rfl rfl ?_
  refine ev_b bX6_mean_0_1 (lv' := [(0, .ref 0), (1, .int (zI (z1))), (2, .int (zI (z2)))]) (st' := [.int (zI (z1))]) (w2 := compW T S P U O B Q C R tl rf) rfl ?_
  refine ev_callS (Yc := mX6_isHow) [] dX6_mean_1 tw_711 kX6_isHow (m_X6_isHow_z z1 rz1) rfl (st := []) rfl (by decide) rfl (by decide) (Nat.le_of_ble_eq_true rfl) (Nat.le_refl _) (Nat.le_refl _) (fun r w' h => by obtain ⟨-, rfl⟩ := h; exact Nat.le_of_ble_eq_true rfl) ?_
  rintro _ _ ⟨rfl, rfl⟩
  refine ev_eq (lv' := [(0, .ref 0), (1, .int (zI (z1))), (2, .int (zI (z2)))]) (st' := [.int (nI (b01 (0 ≤ z1 ∧ z1 < 3)))]) (w' := compW T S P U O B Q C R tl rf) rfl rfl rfl ?_
  refine ev_ifeq_b (tgt := 14) dX6_mean_4 (by decide) (fun h4 => (by exfalso; omega)) (fun h4 => ?_)
  refine ev_b bX6_mean_7_8 (lv' := [(0, .ref 0), (1, .int (zI (z1))), (2, .int (zI (z2)))]) (st' := [.int (zI (z2))]) (w2 := compW T S P U O B Q C R tl rf) rfl ?_
  refine ev_callS (Yc := mX6_isEither) [] dX6_mean_8 tw_667 kX6_isEither (m_X6_isEither_z z2 rz2) rfl (st := []) rfl (by decide) rfl (by decide) (Nat.le_of_ble_eq_true rfl) (Nat.le_refl _) (Nat.le_refl _) (fun r w' h => by obtain ⟨-, rfl⟩ := h; exact Nat.le_of_ble_eq_true rfl) ?_
  rintro _ _ ⟨rfl, rfl⟩
  refine ev_eq (lv' := [(0, .ref 0), (1, .int (zI (z1))), (2, .int (zI (z2)))]) (st' := [.int (nI (b01 (z2 = 0 ∨ z2 = 1)))]) (w' := compW T S P U O B Q C R tl rf) rfl rfl rfl ?_
  refine ev_ifne_b (tgt := 21) dX6_mean_11 (by decide) (fun h11 => (by exfalso; omega)) (fun h11 => ?_)
  refine ev_b bX6_mean_14_17 (lv' := [(0, .ref 0), (1, .int (zI (z1))), (2, .int (zI (z2)))]) (st' := [.int (-2), .ref 0]) (w2 := compW T S P U O B Q C R tl rf) rfl ?_
  refine ev_callV (Yc := mX6_refuseLong) (rng 0 49) dX6_mean_17 tw_800 kX6_refuseLong (m_X6_refuseLong_2 T S P U O B Q C R tl rf) rfl (st := []) rfl rfl rfl (by decide) comp_hw (by decide) (Nat.le_of_ble_eq_true rfl) (Nat.le_refl _) (Nat.le_refl _) (fun r w' h => by obtain ⟨-, rfl⟩ := h; exact Nat.le_of_ble_eq_true rfl) ?_
  rintro _ _ ⟨rfl, rfl⟩
  refine ev_eq (lv' := [(0, .ref 0), (1, .int (zI (z1))), (2, .int (zI (z2)))]) (st' := [.long (4000000000000000000 - (Int32.toInt64 (-2)))]) (w' := compW T S P U O B Q C R tl ((up rf 2 (rf 2 + 1)))) rfl rfl comp_xp ?_
  exact ev_lret dX6_mean_20 rfl (Nat.le_refl 49) (Nat.le_refl _) (Nat.le_refl _) ⟨rfl, _, _, _, _, _, _, rfl, hQ, rfl, rfl⟩
theorem bX6_missing_0_5 {l : Launch} {E : XE} : Snd l E mX6_missing 0 5 (xs [x_aload 0, x_get 7 0, x_iload 1]) := Snd.cons (snd_aload_n (i := 0) dX6_missing_0 rfl) (Snd.cons (snd_get (ci := 7) (k := 0) dX6_missing_1 rfl inX6 (by decide) tw_207) (Snd.cons (snd_iload_n (i := 1) dX6_missing_4 rfl) Snd.nil))
theorem bX6_missing_11_13 {l : Launch} {E : XE} : Snd l E mX6_missing 11 13 (xs [x_aload 0, x_push (.int (-1))]) := Snd.cons (snd_aload_n (i := 0) dX6_missing_11 rfl) (Snd.cons (snd_iconst (v := -1) dX6_missing_12 (by decide)) Snd.nil)
set_option maxHeartbeats 4000000 in
set_option maxRecDepth 100000 in
theorem p_missing_1 {l : Launch} {E : XE} (T : TopN) (S P U : SaleN) (O : OutN) (B : BillN) (Q : SeaN) (C : ScrN) (R : PrtN) (tl rf : Nat → Nat) (z1 z2 z3 : Int) (hS : SaleOK S) (hQ : Q.fd < 2147483648) (rz1 : -2147483648 ≤ z1 ∧ z1 < 2147483648) (rz2 : -2147483648 ≤ z2 ∧ z2 < 2147483648) (rz3 : -2147483648 ≤ z3 ∧ z3 < 2147483648) (h : ¬ (0 ≤ z1 ∧ z1 < S.ca)) : MetE l E mX6_missing (2) 0 0 [.ref 0, .int (zI (z1)), .int (zI (z2)), .int (zI (z3))] (compW T S P U O B Q C R tl rf) (CP T S P (C.lt) (C.sz) tl (up rf 1 (rf 1 + 1)) (some (.long (4000000000000000000 - (Int32.toInt64 (-1)))))) := by
  refine MetE.of (by decide +kernel) (Nat.le_of_ble_eq_true rfl) ?_
  have hca := hS.1
  have hpw := pow_ca hS
  have hac := ac_lt hS
  
  refine ev_eq (lv' := [(0, .ref 0), (1, .int (zI (z1))), (2, .int (zI (z2))), (3, .int (zI (z3)))]) (st' := []) (w' := compW T S P U O B Q C R tl rf) rfl rfl rfl ?_
  refine ev_b bX6_missing_0_5 (lv' := [(0, .ref 0), (1, .int (zI (z1))), (2, .int (zI (z2))), (3, .int (zI (z3)))]) (st' := [.int (zI (z1)), .ref 1]) (w2 := compW T S P U O B Q C R tl rf) rfl ?_
  refine ev_callVN (Yc := mX3_hasBid) [1, 2, 3, 4, 5, 6, 7, 8] dX6_missing_5 tn_444 kX3_hasBid (m_X3_hasBid_z S z1 hS rz1) rfl (st := []) rfl rfl rfl (by decide) hw_comp__1 (by decide) (Nat.le_of_ble_eq_true rfl) (Nat.le_refl _) (Nat.le_refl _) (fun r w' h => by obtain ⟨-, rfl⟩ := h; exact Nat.le_of_ble_eq_true rfl) ?_
  rintro _ _ ⟨rfl, rfl⟩
  refine ev_eq (lv' := [(0, .ref 0), (1, .int (zI (z1))), (2, .int (zI (z2))), (3, .int (zI (z3)))]) (st' := [.int (nI (b01 (0 ≤ z1 ∧ z1 < S.ca)))]) (w' := compW T S P U O B Q C R tl rf) rfl rfl xp_comp__1 ?_
  refine ev_ifne_b (tgt := 17) dX6_missing_8 (by decide) (fun h8 => (by exfalso; omega)) (fun h8 => ?_)
  refine ev_b bX6_missing_11_13 (lv' := [(0, .ref 0), (1, .int (zI (z1))), (2, .int (zI (z2))), (3, .int (zI (z3)))]) (st' := [.int (-1), .ref 0]) (w2 := compW T S P U O B Q C R tl rf) rfl ?_
  refine ev_callV (Yc := mX6_refuseLong) (rng 0 49) dX6_missing_13 tw_800 kX6_refuseLong (m_X6_refuseLong_1 T S P U O B Q C R tl rf) rfl (st := []) rfl rfl rfl (by decide) comp_hw (by decide) (Nat.le_of_ble_eq_true rfl) (Nat.le_refl _) (Nat.le_refl _) (fun r w' h => by obtain ⟨-, rfl⟩ := h; exact Nat.le_of_ble_eq_true rfl) ?_
  rintro _ _ ⟨rfl, rfl⟩
  refine ev_eq (lv' := [(0, .ref 0), (1, .int (zI (z1))), (2, .int (zI (z2))), (3, .int (zI (z3)))]) (st' := [.long (4000000000000000000 - (Int32.toInt64 (-1)))]) (w' := compW T S P U O B Q C R tl ((up rf 1 (rf 1 + 1)))) rfl rfl comp_xp ?_
  exact ev_lret dX6_missing_16 rfl (Nat.le_refl 49) (Nat.le_refl _) (Nat.le_refl _) ⟨rfl, _, _, _, _, _, _, rfl, hQ, rfl, rfl⟩
theorem bX6_missing_17_19 {l : Launch} {E : XE} : Snd l E mX6_missing 17 19 (xs [x_iload 2, x_push (.int (nI 2))]) := Snd.cons (snd_iload_n (i := 2) dX6_missing_17 rfl) (Snd.cons (snd_iconst (v := nI 2) dX6_missing_18 (by decide)) Snd.nil)
theorem bX6_missing_22_25 {l : Launch} {E : XE} : Snd l E mX6_missing 22 25 (xs [x_aload 0, x_push (.int (-4))]) := Snd.cons (snd_aload_n (i := 0) dX6_missing_22 rfl) (Snd.cons (snd_bipush (v := -4) dX6_missing_23 (by decide)) Snd.nil)
set_option maxHeartbeats 4000000 in
set_option maxRecDepth 100000 in
theorem p_missing_4 {l : Launch} {E : XE} (T : TopN) (S P U : SaleN) (O : OutN) (B : BillN) (Q : SeaN) (C : ScrN) (R : PrtN) (tl rf : Nat → Nat) (z1 z2 z3 : Int) (hS : SaleOK S) (hQ : Q.fd < 2147483648) (rz1 : -2147483648 ≤ z1 ∧ z1 < 2147483648) (rz2 : -2147483648 ≤ z2 ∧ z2 < 2147483648) (rz3 : -2147483648 ≤ z3 ∧ z3 < 2147483648) (h : 0 ≤ z1 ∧ z1 < S.ca) (h2 : z2 < 2) : MetE l E mX6_missing (2) 0 0 [.ref 0, .int (zI (z1)), .int (zI (z2)), .int (zI (z3))] (compW T S P U O B Q C R tl rf) (CP T S P (C.lt) (C.sz) tl (up rf 4 (rf 4 + 1)) (some (.long (4000000000000000000 - (Int32.toInt64 (-4)))))) := by
  refine MetE.of (by decide +kernel) (Nat.le_of_ble_eq_true rfl) ?_
  have hca := hS.1
  have hpw := pow_ca hS
  have hac := ac_lt hS
  
  refine ev_eq (lv' := [(0, .ref 0), (1, .int (zI (z1))), (2, .int (zI (z2))), (3, .int (zI (z3)))]) (st' := []) (w' := compW T S P U O B Q C R tl rf) rfl rfl rfl ?_
  refine ev_b bX6_missing_0_5 (lv' := [(0, .ref 0), (1, .int (zI (z1))), (2, .int (zI (z2))), (3, .int (zI (z3)))]) (st' := [.int (zI (z1)), .ref 1]) (w2 := compW T S P U O B Q C R tl rf) rfl ?_
  refine ev_callVN (Yc := mX3_hasBid) [1, 2, 3, 4, 5, 6, 7, 8] dX6_missing_5 tn_444 kX3_hasBid (m_X3_hasBid_z S z1 hS rz1) rfl (st := []) rfl rfl rfl (by decide) hw_comp__1 (by decide) (Nat.le_of_ble_eq_true rfl) (Nat.le_refl _) (Nat.le_refl _) (fun r w' h => by obtain ⟨-, rfl⟩ := h; exact Nat.le_of_ble_eq_true rfl) ?_
  rintro _ _ ⟨rfl, rfl⟩
  refine ev_eq (lv' := [(0, .ref 0), (1, .int (zI (z1))), (2, .int (zI (z2))), (3, .int (zI (z3)))]) (st' := [.int (nI (b01 (0 ≤ z1 ∧ z1 < S.ca)))]) (w' := compW T S P U O B Q C R tl rf) rfl rfl xp_comp__1 ?_
  refine ev_ifne_b (tgt := 17) dX6_missing_8 (by decide) (fun h8 => ?_) (fun h8 => (by exfalso; omega))
  refine ev_b bX6_missing_17_19 (lv' := [(0, .ref 0), (1, .int (zI (z1))), (2, .int (zI (z2))), (3, .int (zI (z3)))]) (st' := [.int (nI (2)), .int (zI (z2))]) (w2 := compW T S P U O B Q C R tl rf) rfl ?_
  refine ev_top (y := zI (((2 : Nat) : Int))) (zI_nat _).symm ?_
  refine ev_icmp_ge_z (tgt := 29) (by constructor <;> omega) (by constructor <;> omega) dX6_missing_19 (by decide) (fun h19 => (by exfalso; omega)) (fun h19 => ?_)
  refine ev_b bX6_missing_22_25 (lv' := [(0, .ref 0), (1, .int (zI (z1))), (2, .int (zI (z2))), (3, .int (zI (z3)))]) (st' := [.int (-4), .ref 0]) (w2 := compW T S P U O B Q C R tl rf) rfl ?_
  refine ev_callV (Yc := mX6_refuseLong) (rng 0 49) dX6_missing_25 tw_800 kX6_refuseLong (m_X6_refuseLong_4 T S P U O B Q C R tl rf) rfl (st := []) rfl rfl rfl (by decide) comp_hw (by decide) (Nat.le_of_ble_eq_true rfl) (Nat.le_refl _) (Nat.le_refl _) (fun r w' h => by obtain ⟨-, rfl⟩ := h; exact Nat.le_of_ble_eq_true rfl) ?_
  rintro _ _ ⟨rfl, rfl⟩
  refine ev_eq (lv' := [(0, .ref 0), (1, .int (zI (z1))), (2, .int (zI (z2))), (3, .int (zI (z3)))]) (st' := [.long (4000000000000000000 - (Int32.toInt64 (-4)))]) (w' := compW T S P U O B Q C R tl ((up rf 4 (rf 4 + 1)))) rfl rfl comp_xp ?_
  exact ev_lret dX6_missing_28 rfl (Nat.le_refl 49) (Nat.le_refl _) (Nat.le_refl _) ⟨rfl, _, _, _, _, _, _, rfl, hQ, rfl, rfl⟩
theorem bX6_missing_29_32 {l : Launch} {E : XE} : Snd l E mX6_missing 29 32 (xs [x_iload 2, x_push (.int (nI 20))]) := Snd.cons (snd_iload_n (i := 2) dX6_missing_29 rfl) (Snd.cons (snd_bipush (v := nI 20) dX6_missing_30 (by decide)) Snd.nil)
theorem bX6_missing_35_38 {l : Launch} {E : XE} : Snd l E mX6_missing 35 38 (xs [x_aload 0, x_push (.int (-6))]) := Snd.cons (snd_aload_n (i := 0) dX6_missing_35 rfl) (Snd.cons (snd_bipush (v := -6) dX6_missing_36 (by decide)) Snd.nil)
set_option maxHeartbeats 4000000 in
set_option maxRecDepth 100000 in
theorem p_missing_6 {l : Launch} {E : XE} (T : TopN) (S P U : SaleN) (O : OutN) (B : BillN) (Q : SeaN) (C : ScrN) (R : PrtN) (tl rf : Nat → Nat) (z1 z2 z3 : Int) (hS : SaleOK S) (hQ : Q.fd < 2147483648) (rz1 : -2147483648 ≤ z1 ∧ z1 < 2147483648) (rz2 : -2147483648 ≤ z2 ∧ z2 < 2147483648) (rz3 : -2147483648 ≤ z3 ∧ z3 < 2147483648) (h : 0 ≤ z1 ∧ z1 < S.ca) (h2 : 20 < z2) : MetE l E mX6_missing (2) 0 0 [.ref 0, .int (zI (z1)), .int (zI (z2)), .int (zI (z3))] (compW T S P U O B Q C R tl rf) (CP T S P (C.lt) (C.sz) tl (up rf 6 (rf 6 + 1)) (some (.long (4000000000000000000 - (Int32.toInt64 (-6)))))) := by
  refine MetE.of (by decide +kernel) (Nat.le_of_ble_eq_true rfl) ?_
  have hca := hS.1
  have hpw := pow_ca hS
  have hac := ac_lt hS
  
  refine ev_eq (lv' := [(0, .ref 0), (1, .int (zI (z1))), (2, .int (zI (z2))), (3, .int (zI (z3)))]) (st' := []) (w' := compW T S P U O B Q C R tl rf) rfl rfl rfl ?_
  refine ev_b bX6_missing_0_5 (lv' := [(0, .ref 0), (1, .int (zI (z1))), (2, .int (zI (z2))), (3, .int (zI (z3)))]) (st' := [.int (zI (z1)), .ref 1]) (w2 := compW T S P U O B Q C R tl rf) rfl ?_
  refine ev_callVN (Yc := mX3_hasBid) [1, 2, 3, 4, 5, 6, 7, 8] dX6_missing_5 tn_444 kX3_hasBid (m_X3_hasBid_z S z1 hS rz1) rfl (st := []) rfl rfl rfl (by decide) hw_comp__1 (by decide) (Nat.le_of_ble_eq_true rfl) (Nat.le_refl _) (Nat.le_refl _) (fun r w' h => by obtain ⟨-, rfl⟩ := h; exact Nat.le_of_ble_eq_true rfl) ?_
  rintro _ _ ⟨rfl, rfl⟩
  refine ev_eq (lv' := [(0, .ref 0), (1, .int (zI (z1))), (2, .int (zI (z2))), (3, .int (zI (z3)))]) (st' := [.int (nI (b01 (0 ≤ z1 ∧ z1 < S.ca)))]) (w' := compW T S P U O B Q C R tl rf) rfl rfl xp_comp__1 ?_
  refine ev_ifne_b (tgt := 17) dX6_missing_8 (by decide) (fun h8 => ?_) (fun h8 => (by exfalso; omega))
  refine ev_b bX6_missing_17_19 (lv' := [(0, .ref 0), (1, .int (zI (z1))), (2, .int (zI (z2))), (3, .int (zI (z3)))]) (st' := [.int (nI (2)), .int (zI (z2))]) (w2 := compW T S P U O B Q C R tl rf) rfl ?_
  refine ev_top (y := zI (((2 : Nat) : Int))) (zI_nat _).symm ?_
  refine ev_icmp_ge_z (tgt := 29) (by constructor <;> omega) (by constructor <;> omega) dX6_missing_19 (by decide) (fun h19 => ?_) (fun h19 => (by exfalso; omega))
  refine ev_b bX6_missing_29_32 (lv' := [(0, .ref 0), (1, .int (zI (z1))), (2, .int (zI (z2))), (3, .int (zI (z3)))]) (st' := [.int (nI (20)), .int (zI (z2))]) (w2 := compW T S P U O B Q C R tl rf) rfl ?_
  refine ev_top (y := zI (((20 : Nat) : Int))) (zI_nat _).symm ?_
  refine ev_icmp_le_z (tgt := 42) (by constructor <;> omega) (by constructor <;> omega) dX6_missing_32 (by decide) (fun h32 => (by exfalso; omega)) (fun h32 => ?_)
  refine ev_b bX6_missing_35_38 (lv' := [(0, .ref 0), (1, .int (zI (z1))), (2, .int (zI (z2))), (3, .int (zI (z3)))]) (st' := [.int (-6), .ref 0]) (w2 := compW T S P U O B Q C R tl rf) rfl ?_
  refine ev_callV (Yc := mX6_refuseLong) (rng 0 49) dX6_missing_38 tw_800 kX6_refuseLong (m_X6_refuseLong_6 T S P U O B Q C R tl rf) rfl (st := []) rfl rfl rfl (by decide) comp_hw (by decide) (Nat.le_of_ble_eq_true rfl) (Nat.le_refl _) (Nat.le_refl _) (fun r w' h => by obtain ⟨-, rfl⟩ := h; exact Nat.le_of_ble_eq_true rfl) ?_
  rintro _ _ ⟨rfl, rfl⟩
  refine ev_eq (lv' := [(0, .ref 0), (1, .int (zI (z1))), (2, .int (zI (z2))), (3, .int (zI (z3)))]) (st' := [.long (4000000000000000000 - (Int32.toInt64 (-6)))]) (w' := compW T S P U O B Q C R tl ((up rf 6 (rf 6 + 1)))) rfl rfl comp_xp ?_
  exact ev_lret dX6_missing_41 rfl (Nat.le_refl 49) (Nat.le_refl _) (Nat.le_refl _) ⟨rfl, _, _, _, _, _, _, rfl, hQ, rfl, rfl⟩
theorem bX6_missing_42_43 {l : Launch} {E : XE} : Snd l E mX6_missing 42 43 (xs [x_iload 3]) := Snd.cons (snd_iload_n (i := 3) dX6_missing_42 rfl) Snd.nil
theorem bX6_missing_49_52 {l : Launch} {E : XE} : Snd l E mX6_missing 49 52 (xs [x_aload 0, x_push (.int (-2))]) := Snd.cons (snd_aload_n (i := 0) dX6_missing_49 rfl) (Snd.cons (snd_bipush (v := -2) dX6_missing_50 (by decide)) Snd.nil)
set_option maxHeartbeats 4000000 in
set_option maxRecDepth 100000 in
theorem p_missing_2 {l : Launch} {E : XE} (T : TopN) (S P U : SaleN) (O : OutN) (B : BillN) (Q : SeaN) (C : ScrN) (R : PrtN) (tl rf : Nat → Nat) (z1 z2 z3 : Int) (hS : SaleOK S) (hQ : Q.fd < 2147483648) (rz1 : -2147483648 ≤ z1 ∧ z1 < 2147483648) (rz2 : -2147483648 ≤ z2 ∧ z2 < 2147483648) (rz3 : -2147483648 ≤ z3 ∧ z3 < 2147483648) (h : 0 ≤ z1 ∧ z1 < S.ca) (h2 : 2 ≤ z2 ∧ z2 ≤ 20) (h3 : ¬ (z3 = 0 ∨ z3 = 1)) : MetE l E mX6_missing (2) 0 0 [.ref 0, .int (zI (z1)), .int (zI (z2)), .int (zI (z3))] (compW T S P U O B Q C R tl rf) (CP T S P (C.lt) (C.sz) tl (up rf 2 (rf 2 + 1)) (some (.long (4000000000000000000 - (Int32.toInt64 (-2)))))) := by
  refine MetE.of (by decide +kernel) (Nat.le_of_ble_eq_true rfl) ?_
  have hca := hS.1
  have hpw := pow_ca hS
  have hac := ac_lt hS
  
  refine ev_eq (lv' := [(0, .ref 0), (1, .int (zI (z1))), (2, .int (zI (z2))), (3, .int (zI (z3)))]) (st' := []) (w' := compW T S P U O B Q C R tl rf) rfl rfl rfl ?_
  refine ev_b bX6_missing_0_5 (lv' := [(0, .ref 0), (1, .int (zI (z1))), (2, .int (zI (z2))), (3, .int (zI (z3)))]) (st' := [.int (zI (z1)), .ref 1]) (w2 := compW T S P U O B Q C R tl rf) rfl ?_
  refine ev_callVN (Yc := mX3_hasBid) [1, 2, 3, 4, 5, 6, 7, 8] dX6_missing_5 tn_444 kX3_hasBid (m_X3_hasBid_z S z1 hS rz1) rfl (st := []) rfl rfl rfl (by decide) hw_comp__1 (by decide) (Nat.le_of_ble_eq_true rfl) (Nat.le_refl _) (Nat.le_refl _) (fun r w' h => by obtain ⟨-, rfl⟩ := h; exact Nat.le_of_ble_eq_true rfl) ?_
  rintro _ _ ⟨rfl, rfl⟩
  refine ev_eq (lv' := [(0, .ref 0), (1, .int (zI (z1))), (2, .int (zI (z2))), (3, .int (zI (z3)))]) (st' := [.int (nI (b01 (0 ≤ z1 ∧ z1 < S.ca)))]) (w' := compW T S P U O B Q C R tl rf) rfl rfl xp_comp__1 ?_
  refine ev_ifne_b (tgt := 17) dX6_missing_8 (by decide) (fun h8 => ?_) (fun h8 => (by exfalso; omega))
  refine ev_b bX6_missing_17_19 (lv' := [(0, .ref 0), (1, .int (zI (z1))), (2, .int (zI (z2))), (3, .int (zI (z3)))]) (st' := [.int (nI (2)), .int (zI (z2))]) (w2 := compW T S P U O B Q C R tl rf) rfl ?_
  refine ev_top (y := zI (((2 : Nat) : Int))) (zI_nat _).symm ?_
  refine ev_icmp_ge_z (tgt := 29) (by constructor <;> omega) (by constructor <;> omega) dX6_missing_19 (by decide) (fun h19 => ?_) (fun h19 => (by exfalso; omega))
  refine ev_b bX6_missing_29_32 (lv' := [(0, .ref 0), (1, .int (zI (z1))), (2, .int (zI (z2))), (3, .int (zI (z3)))]) (st' := [.int (nI (20)), .int (zI (z2))]) (w2 := compW T S P U O B Q C R tl rf) rfl ?_
  refine ev_top (y := zI (((20 : Nat) : Int))) (zI_nat _).symm ?_
  refine ev_icmp_le_z (tgt := 42) (by constructor <;> omega) (by constructor <;> omega) dX6_missing_32 (by decide) (fun h32 => ?_) (fun h32 => (by exfalso; omega))
  refine ev_b bX6_missing_42_43 (lv' := [(0, .ref 0), (1, .int (zI (z1))), (2, .int (zI (z2))), (3, .int (zI (z3)))]) (st' := [.int (zI (z3))]) (w2 := compW T S P U O B Q C R tl rf) rfl ?_
  refine ev_callS (Yc := mX6_isEither) [] dX6_missing_43 tw_667 kX6_isEither (m_X6_isEither_z z3 rz3) rfl (st := []) rfl (by decide) rfl (by decide) (Nat.le_of_ble_eq_true rfl) (Nat.le_refl _) (Nat.le_refl _) (fun r w' h => by obtain ⟨-, rfl⟩ := h; exact Nat.le_of_ble_eq_true rfl) ?_
  rintro _ _ ⟨rfl, rfl⟩
  refine ev_eq (lv' := [(0, .ref 0), (1, .int (zI (z1))), (2, .int (zI (z2))), (3, .int (zI (z3)))]) (st' := [.int (nI (b01 (z3 = 0 ∨ z3 = 1)))]) (w' := compW T S P U O B Q C R tl rf) rfl rfl rfl ?_
  refine ev_ifne_b (tgt := 56) dX6_missing_46 (by decide) (fun h46 => (by exfalso; omega)) (fun h46 => ?_)
  refine ev_b bX6_missing_49_52 (lv' := [(0, .ref 0), (1, .int (zI (z1))), (2, .int (zI (z2))), (3, .int (zI (z3)))]) (st' := [.int (-2), .ref 0]) (w2 := compW T S P U O B Q C R tl rf) rfl ?_
  refine ev_callV (Yc := mX6_refuseLong) (rng 0 49) dX6_missing_52 tw_800 kX6_refuseLong (m_X6_refuseLong_2 T S P U O B Q C R tl rf) rfl (st := []) rfl rfl rfl (by decide) comp_hw (by decide) (Nat.le_of_ble_eq_true rfl) (Nat.le_refl _) (Nat.le_refl _) (fun r w' h => by obtain ⟨-, rfl⟩ := h; exact Nat.le_of_ble_eq_true rfl) ?_
  rintro _ _ ⟨rfl, rfl⟩
  refine ev_eq (lv' := [(0, .ref 0), (1, .int (zI (z1))), (2, .int (zI (z2))), (3, .int (zI (z3)))]) (st' := [.long (4000000000000000000 - (Int32.toInt64 (-2)))]) (w' := compW T S P U O B Q C R tl ((up rf 2 (rf 2 + 1)))) rfl rfl comp_xp ?_
  exact ev_lret dX6_missing_55 rfl (Nat.le_refl 49) (Nat.le_refl _) (Nat.le_refl _) ⟨rfl, _, _, _, _, _, _, rfl, hQ, rfl, rfl⟩
