theorem bX6_bitAt_0_2 {l : Launch} {E : XE} : Snd l E mX6_bitAt 0 2 (xs [x_iload 0, x_iload 1]) := Snd.cons (snd_iload_n (i := 0) dX6_bitAt_0 rfl) (Snd.cons (snd_iload_n (i := 1) dX6_bitAt_1 rfl) Snd.nil)
theorem bX6_bitAt_3_4 {l : Launch} {E : XE} : Snd l E mX6_bitAt 3 4 (xs [x_push (.int (nI 1))]) := Snd.cons (snd_iconst (v := nI 1) dX6_bitAt_3 (by decide)) Snd.nil
set_option maxHeartbeats 4000000 in
set_option maxRecDepth 100000 in
theorem m_X6_bitAt {l : Launch} {E : XE} (bits place : Nat) (hb : bits < 2147483648) (hp : place < 32) : MetE l E mX6_bitAt 0 0 0 [.int (nI (bits)), .int (nI (place))] ([]) (fun r w' => r = some (.int (nI (b01 (bits.testBit place = true)))) ∧ w' = []) := by
  refine MetE.of (by decide +kernel) (Nat.le_of_ble_eq_true rfl) ?_
  refine ev_eq (lv' := [(0, .int (nI (bits))), (1, .int (nI (place)))]) (st' := []) (w' := []) rfl rfl rfl ?_
  refine ev_b bX6_bitAt_0_2 (lv' := [(0, .int (nI (bits))), (1, .int (nI (place)))]) (st' := [.int (nI (place)), .int (nI (bits))]) (w2 := []) rfl ?_
  refine ev_ishr_n (by omega) (by omega) dX6_bitAt_2 ?_
  refine ev_b bX6_bitAt_3_4 (lv' := [(0, .int (nI (bits))), (1, .int (nI (place)))]) (st' := [.int (nI (1)), .int (nI (bits >>> place))]) (w2 := []) rfl ?_
  refine ev_iand_n dX6_bitAt_4 ?_
  refine ev_top (y := (nI (b01 (bits.testBit place = true)))) (by exact congrArg nI (shr1 _ _)) ?_
  exact ev_iret dX6_bitAt_5 rfl (Nat.le_of_ble_eq_true rfl) (Nat.le_refl _) (Nat.le_refl _) ⟨rfl, rfl⟩
theorem bX3_isFull_0_6 {l : Launch} {E : XE} : Snd l E mX3_isFull 0 6 (xs [x_aload 0, x_get 4 7, x_push (.int (nI 10))]) := Snd.cons (snd_aload_n (i := 0) dX3_isFull_0 rfl) (Snd.cons (snd_get (ci := 4) (k := 7) dX3_isFull_1 rfl inX3 (by decide) tw_41) (Snd.cons (snd_bipush (v := nI 10) dX3_isFull_4 (by decide)) Snd.nil))
theorem bX3_isFull_13_14 {l : Launch} {E : XE} : Snd l E mX3_isFull 13 14 (xs [x_push (.int (nI 0))]) := Snd.cons (snd_iconst (v := nI 0) dX3_isFull_13 (by decide)) Snd.nil
theorem bX3_isFull_9_14 {l : Launch} {E : XE} : Snd l E mX3_isFull 9 14 (xs [x_push (.int (nI 1)), x_id]) := Snd.cons (snd_iconst (v := nI 1) dX3_isFull_9 (by decide)) (Snd.cons (snd_goto (tgt := 14) dX3_isFull_10 (by decide)) Snd.nil)
set_option maxHeartbeats 4000000 in
set_option maxRecDepth 100000 in
theorem m_X3_isFull {l : Launch} {E : XE} (S : SaleN) (hS : SaleOK S) : MetE l E mX3_isFull 0 0 0 [.ref 0] (saleW 0 S) (fun r w' => r = some (.int (nI (b01 (10 ≤ S.ca)))) ∧ w' = saleW 0 S) := by
  refine MetE.of (by decide +kernel) (Nat.le_of_ble_eq_true rfl) ?_
  have hca := hS.1
  refine ev_eq (lv' := [(0, .ref 0)]) (st' := []) (w' := saleW 0 S) rfl rfl rfl ?_
  refine ev_b bX3_isFull_0_6 (lv' := [(0, .ref 0)]) (st' := [.int (nI (10)), .int (nI (S.ca))]) (w2 := saleW 0 S) rfl ?_
  refine ev_icmp_lt_n (tgt := 13) (by omega) (by decide) dX3_isFull_6 (by decide) (fun h6 => ?_) (fun h6 => ?_)
  · skip
    refine ev_b bX3_isFull_13_14 (lv' := [(0, .ref 0)]) (st' := [.int (nI (0))]) (w2 := saleW 0 S) rfl ?_
    exact ev_zret dX3_isFull_14 rfl rfl (Nat.le_of_ble_eq_true rfl) (Nat.le_refl _) (Nat.le_refl _) ⟨(congrArg (fun t => some (Value.int (nI t))) (b01_f (by omega)).symm), rfl⟩
  · skip
    refine ev_b bX3_isFull_9_14 (lv' := [(0, .ref 0)]) (st' := [.int (nI (1))]) (w2 := saleW 0 S) rfl ?_
    exact ev_zret dX3_isFull_14 rfl rfl (Nat.le_of_ble_eq_true rfl) (Nat.le_refl _) (Nat.le_refl _) ⟨(congrArg (fun t => some (Value.int (nI t))) (b01_t (by omega)).symm), rfl⟩
theorem bX3_pricesOf_0_4 {l : Launch} {E : XE} : Snd l E mX3_pricesOf 0 4 (xs [x_push (.int (nI 0)), x_istore 2, x_push (.int (nI 0)), x_istore 3]) := Snd.cons (snd_iconst (v := nI 0) dX3_pricesOf_0 (by decide)) (Snd.cons (snd_istore_n (i := 2) dX3_pricesOf_1 rfl (by decide)) (Snd.cons (snd_iconst (v := nI 0) dX3_pricesOf_2 (by decide)) (Snd.cons (snd_istore_n (i := 3) dX3_pricesOf_3 rfl (by decide)) Snd.nil)))
theorem bX3_pricesOf_4_9 {l : Launch} {E : XE} : Snd l E mX3_pricesOf 4 9 (xs [x_iload 3, x_aload 0, x_get 4 7]) := Snd.cons (snd_iload_n (i := 3) dX3_pricesOf_4 rfl) (Snd.cons (snd_aload_n (i := 0) dX3_pricesOf_5 rfl) (Snd.cons (snd_get (ci := 4) (k := 7) dX3_pricesOf_6 rfl inX3 (by decide) tw_41) Snd.nil))
theorem bX3_pricesOf_35_36 {l : Launch} {E : XE} : Snd l E mX3_pricesOf 35 36 (xs [x_iload 2]) := Snd.cons (snd_iload_n (i := 2) dX3_pricesOf_35 rfl) Snd.nil
theorem bX3_pricesOf_12_15 {l : Launch} {E : XE} : Snd l E mX3_pricesOf 12 15 (xs [x_iload 1, x_push (.int (nI 1)), x_iload 3]) := Snd.cons (snd_iload_n (i := 1) dX3_pricesOf_12 rfl) (Snd.cons (snd_iconst (v := nI 1) dX3_pricesOf_13 (by decide)) (Snd.cons (snd_iload_n (i := 3) dX3_pricesOf_14 rfl) Snd.nil))
theorem bX3_pricesOf_32_4 {l : Launch} {E : XE} : Snd l E mX3_pricesOf 32 4 (xs [x_id]) := Snd.cons (snd_goto (tgt := 4) dX3_pricesOf_32 (by decide)) Snd.nil
theorem bX3_pricesOf_20_26 {l : Launch} {E : XE} : Snd l E mX3_pricesOf 20 26 (xs [x_iload 2, x_aload 0, x_get 4 2, x_iload 3]) := Snd.cons (snd_iload_n (i := 2) dX3_pricesOf_20 rfl) (Snd.cons (snd_aload_n (i := 0) dX3_pricesOf_21 rfl) (Snd.cons (snd_get (ci := 4) (k := 2) dX3_pricesOf_22 rfl inX3 (by decide) tw_36) (Snd.cons (snd_iload_n (i := 3) dX3_pricesOf_25 rfl) Snd.nil)))
theorem bX3_pricesOf_28_29 {l : Launch} {E : XE} : Snd l E mX3_pricesOf 28 29 (xs [x_istore 2]) := Snd.cons (snd_istore_n (i := 2) dX3_pricesOf_28 rfl (by decide)) Snd.nil
set_option maxHeartbeats 4000000 in
set_option maxRecDepth 100000 in
theorem m_X3_pricesOf {l : Launch} {E : XE} (S : SaleN) (bits : Nat) (hS : SaleOK S) (hb : bits < 2147483648) : MetE l E mX3_pricesOf 0 0 0 [.ref 0, .int (nI (bits))] (saleW 0 S) (fun r w' => r = some (.int (nI (prTo S.pr bits S.ca))) ∧ w' = saleW 0 S) := by
  refine MetE.of (by decide +kernel) (Nat.le_of_ble_eq_true rfl) ?_
  have hca := hS.1
  refine ev_eq (lv' := [(0, .ref 0), (1, .int (nI (bits)))]) (st' := []) (w' := saleW 0 S) rfl rfl rfl ?_
  refine ev_b bX3_pricesOf_0_4 (lv' := [(3, .int (nI (0))), (2, .int (nI (0))), (0, .ref 0), (1, .int (nI (bits)))]) (st' := []) (w2 := saleW 0 S) rfl ?_
  have L4 : ∀ (j_ k : Nat), k + j_ = S.ca → Ev l E mX3_pricesOf 0 0 0 (saleW 0 S) (fun r w' => r = some (.int (nI (prTo S.pr bits S.ca))) ∧ w' = saleW 0 S) 0 0 4 [(3, .int (nI (k))), (2, .int (nI (prTo S.pr bits k))), (0, .ref 0), (1, .int (nI (bits)))] [] (saleW 0 S) := by
    intro j_
    induction j_ with
    | zero =>
      intro k hk_  
      replace hk_ : k = S.ca := hk_
      subst hk_
      refine ev_b bX3_pricesOf_4_9 (lv' := [(3, .int (nI (S.ca))), (2, .int (nI (prTo S.pr bits S.ca))), (0, .ref 0), (1, .int (nI (bits)))]) (st' := [.int (nI (S.ca)), .int (nI (S.ca))]) (w2 := saleW 0 S) rfl ?_
      refine ev_icmp_ge_n (tgt := 35) (by omega) (by omega) dX3_pricesOf_9 (by decide) (fun h9 => ?_) (fun h9 => (by exfalso; omega))
      refine ev_b bX3_pricesOf_35_36 (lv' := [(3, .int (nI (S.ca))), (2, .int (nI (prTo S.pr bits S.ca))), (0, .ref 0), (1, .int (nI (bits)))]) (st' := [.int (nI (prTo S.pr bits S.ca))]) (w2 := saleW 0 S) rfl ?_
      exact ev_iret dX3_pricesOf_36 rfl (Nat.le_of_ble_eq_true rfl) (Nat.le_refl _) (Nat.le_refl _) ⟨rfl, rfl⟩
    | succ j_ ih =>
      intro k hk_  
      have hlt_ : k < S.ca := by omega
      refine ev_b bX3_pricesOf_4_9 (lv' := [(3, .int (nI (k))), (2, .int (nI (prTo S.pr bits k))), (0, .ref 0), (1, .int (nI (bits)))]) (st' := [.int (nI (S.ca)), .int (nI (k))]) (w2 := saleW 0 S) rfl ?_
      refine ev_icmp_ge_n (tgt := 35) (by omega) (by omega) dX3_pricesOf_9 (by decide) (fun h9 => (by exfalso; omega)) (fun h9 => ?_)
      refine ev_b bX3_pricesOf_12_15 (lv' := [(3, .int (nI (k))), (2, .int (nI (prTo S.pr bits k))), (0, .ref 0), (1, .int (nI (bits)))]) (st' := [.int (nI (k)), .int (nI (1)), .int (nI (bits))]) (w2 := saleW 0 S) rfl ?_
      refine ev_ishl_n (by omega) dX3_pricesOf_15 ?_
      refine ev_iand_n dX3_pricesOf_16 ?_
      refine ev_if_eq_n (tgt := 29) (by exact Nat.lt_of_le_of_lt Nat.and_le_left hb) dX3_pricesOf_17 (by decide) (fun h17 => ?_) (fun h17 => ?_)
      · skip
        have h17b : ¬ bits.testBit k = true := fun z => (and_bit _ _).mpr z h17
        refine ev_iinc_n (x := k) (v := 1) dX3_pricesOf_29 rfl (by decide) ?_
        refine ev_eq (lv' := [(3, .int (nI (k + 1))), (2, .int (nI (prTo S.pr bits k))), (0, .ref 0), (1, .int (nI (bits)))]) rfl rfl rfl ?_
        refine ev_b bX3_pricesOf_32_4 (lv' := [(3, .int (nI (k + 1))), (2, .int (nI (prTo S.pr bits k))), (0, .ref 0), (1, .int (nI (bits)))]) (st' := []) (w2 := saleW 0 S) rfl ?_
        rw [show nI (k + 1) = nI ((k + 1)) from congrArg nI (by omega)]
        rw [show nI (prTo S.pr bits k) = nI (prTo S.pr bits (k + 1)) from congrArg nI (by show _ = prTo S.pr bits k + _; first | rw [if_pos ((and_bit _ _).mp h17)] | (rw [if_neg h17b]; rfl))]
        exact ih (k + 1) (by omega) 
      · skip
        refine ev_b bX3_pricesOf_20_26 (lv' := [(3, .int (nI (k))), (2, .int (nI (prTo S.pr bits k))), (0, .ref 0), (1, .int (nI (bits)))]) (st' := [.int (nI (k)), .ref 3, .int (nI (prTo S.pr bits k))]) (w2 := saleW 0 S) rfl ?_
        refine ev_iald_n (f := S.pr) dX3_pricesOf_26 rfl (by omega) (by decide) ?_
        refine ev_iadd_n dX3_pricesOf_27 ?_
        refine ev_b bX3_pricesOf_28_29 (lv' := [(2, .int (nI ((prTo S.pr bits k) + (S.pr k)))), (3, .int (nI (k))), (0, .ref 0), (1, .int (nI (bits)))]) (st' := []) (w2 := saleW 0 S) rfl ?_
        refine ev_iinc_n (x := k) (v := 1) dX3_pricesOf_29 rfl (by decide) ?_
        refine ev_eq (lv' := [(3, .int (nI (k + 1))), (2, .int (nI ((prTo S.pr bits k) + (S.pr k)))), (0, .ref 0), (1, .int (nI (bits)))]) rfl rfl rfl ?_
        refine ev_b bX3_pricesOf_32_4 (lv' := [(3, .int (nI (k + 1))), (2, .int (nI ((prTo S.pr bits k) + (S.pr k)))), (0, .ref 0), (1, .int (nI (bits)))]) (st' := []) (w2 := saleW 0 S) rfl ?_
        rw [show nI (k + 1) = nI ((k + 1)) from congrArg nI (by omega)]
        rw [show nI ((prTo S.pr bits k) + (S.pr k)) = nI (prTo S.pr bits (k + 1)) from congrArg nI (by show _ = prTo S.pr bits k + _; first | rw [if_pos ((and_bit _ _).mp h17)] | (rw [if_neg h17b]; rfl))]
        exact ih (k + 1) (by omega) 
  exact L4 S.ca 0 (by omega) 
