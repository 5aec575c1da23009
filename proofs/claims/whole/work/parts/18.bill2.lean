theorem bX0_happy_0_4 {l : Launch} {E : XE} : Snd l E mX0_happy 0 4 (xs [x_push (.int (nI 0)), x_istore 1, x_push (.int (nI 0)), x_istore 2]) := Snd.cons (snd_iconst (v := nI 0) dX0_happy_0 (by decide)) (Snd.cons (snd_istore_n (i := 1) dX0_happy_1 rfl (by decide)) (Snd.cons (snd_iconst (v := nI 0) dX0_happy_2 (by decide)) (Snd.cons (snd_istore_n (i := 2) dX0_happy_3 rfl (by decide)) Snd.nil)))
theorem bX0_happy_4_6 {l : Launch} {E : XE} : Snd l E mX0_happy 4 6 (xs [x_iload 2, x_push (.int (nI 5))]) := Snd.cons (snd_iload_n (i := 2) dX0_happy_4 rfl) (Snd.cons (snd_iconst (v := nI 5) dX0_happy_5 (by decide)) Snd.nil)
theorem bX0_happy_30_31 {l : Launch} {E : XE} : Snd l E mX0_happy 30 31 (xs [x_iload 1]) := Snd.cons (snd_iload_n (i := 1) dX0_happy_30 rfl) Snd.nil
theorem bX0_happy_9_14 {l : Launch} {E : XE} : Snd l E mX0_happy 9 14 (xs [x_aload 0, x_get 1 0, x_iload 2]) := Snd.cons (snd_aload_n (i := 0) dX0_happy_9 rfl) (Snd.cons (snd_get (ci := 1) (k := 0) dX0_happy_10 rfl inX0 (by decide) tw_102) (Snd.cons (snd_iload_n (i := 2) dX0_happy_13 rfl) Snd.nil))
theorem bX0_happy_27_4 {l : Launch} {E : XE} : Snd l E mX0_happy 27 4 (xs [x_id]) := Snd.cons (snd_goto (tgt := 4) dX0_happy_27 (by decide)) Snd.nil
theorem bX0_happy_18_21 {l : Launch} {E : XE} : Snd l E mX0_happy 18 21 (xs [x_iload 1, x_push (.int (nI 1)), x_iload 2]) := Snd.cons (snd_iload_n (i := 1) dX0_happy_18 rfl) (Snd.cons (snd_iconst (v := nI 1) dX0_happy_19 (by decide)) (Snd.cons (snd_iload_n (i := 2) dX0_happy_20 rfl) Snd.nil))
theorem bX0_happy_23_24 {l : Launch} {E : XE} : Snd l E mX0_happy 23 24 (xs [x_istore 1]) := Snd.cons (snd_istore_n (i := 1) dX0_happy_23 rfl (by decide)) Snd.nil
set_option maxHeartbeats 4000000 in
set_option maxRecDepth 100000 in
theorem m_X0_happy {l : Launch} {E : XE} (B : BillN) (hb : BndZ B.wo) : MetE l E mX0_happy (0) 0 0 [.ref 0] (billW 0 B) (fun r w' => r = some (.int (nI (hapTo B.wo 5))) ∧ w' = billW 0 B) := by
  refine MetE.of (by decide +kernel) (Nat.le_of_ble_eq_true rfl) ?_
  refine ev_eq (lv' := [(0, .ref 0)]) (st' := []) (w' := billW 0 B) rfl rfl rfl ?_
  refine ev_b bX0_happy_0_4 (lv' := [(2, .int (nI (0))), (1, .int (nI (0))), (0, .ref 0)]) (st' := []) (w2 := billW 0 B) rfl ?_
  have L4 : ∀ (j_ k : Nat), k + j_ = 5 → Ev l E mX0_happy (0) 0 0 (billW 0 B) (fun r w' => r = some (.int (nI (hapTo B.wo 5))) ∧ w' = billW 0 B) 0 0 4 [(2, .int (nI (k))), (1, .int (nI (hapTo B.wo k))), (0, .ref 0)] [] (billW 0 B) := by
    intro j_
    induction j_ with
    | zero =>
      intro k hk4  
      replace hk4 : k = 5 := hk4
      subst hk4
      refine ev_b bX0_happy_4_6 (lv' := [(2, .int (nI (5))), (1, .int (nI (hapTo B.wo 5))), (0, .ref 0)]) (st' := [.int (nI (5)), .int (nI (5))]) (w2 := billW 0 B) rfl ?_
      refine ev_icmp_ge_n (tgt := 30) (by decide) (by decide) dX0_happy_6 (by decide) (fun h6 => ?_) (fun h6 => (by exfalso; omega))
      refine ev_b bX0_happy_30_31 (lv' := [(2, .int (nI (5))), (1, .int (nI (hapTo B.wo 5))), (0, .ref 0)]) (st' := [.int (nI (hapTo B.wo 5))]) (w2 := billW 0 B) rfl ?_
      exact ev_iret dX0_happy_31 rfl (Nat.le_of_ble_eq_true rfl) (Nat.le_refl _) (Nat.le_refl _) ⟨rfl, rfl⟩
    | succ j_ ih4 =>
      intro k hk4  
      have hlt4 : k < 5 := by omega
      have hbk := hb k (by omega)
      refine ev_b bX0_happy_4_6 (lv' := [(2, .int (nI (k))), (1, .int (nI (hapTo B.wo k))), (0, .ref 0)]) (st' := [.int (nI (5)), .int (nI (k))]) (w2 := billW 0 B) rfl ?_
      refine ev_icmp_ge_n (tgt := 30) (by omega) (by decide) dX0_happy_6 (by decide) (fun h6 => (by exfalso; omega)) (fun h6 => ?_)
      refine ev_b bX0_happy_9_14 (lv' := [(2, .int (nI (k))), (1, .int (nI (hapTo B.wo k))), (0, .ref 0)]) (st' := [.int (nI (k)), .ref 1]) (w2 := billW 0 B) rfl ?_
      refine ev_iald_z (f := B.wo) dX0_happy_14 rfl (by omega) (by decide) ?_
      refine ev_if_le_z (tgt := 24) (by constructor <;> omega) dX0_happy_15 (by decide) (fun h15 => ?_) (fun h15 => ?_)
      · skip
        refine ev_iinc_n (x := k) (v := 1) dX0_happy_24 rfl (by decide) ?_
        refine ev_eq (lv' := [(2, .int (nI (k + 1))), (1, .int (nI (hapTo B.wo k))), (0, .ref 0)]) rfl rfl rfl ?_
        refine ev_b bX0_happy_27_4 (lv' := [(2, .int (nI (k + 1))), (1, .int (nI (hapTo B.wo k))), (0, .ref 0)]) (st' := []) (w2 := billW 0 B) rfl ?_
        rw [show nI (k + 1) = nI ((k + 1)) from congrArg nI (by omega)]
        rw [show nI (hapTo B.wo k) = nI (hapTo B.wo (k + 1)) from congrArg nI (by rw [hapTo_s]; first | rw [if_neg (Int.not_lt.mpr h15)] | rw [if_pos (Int.not_le.mp h15)])]
        exact ih4 (k + 1) (by omega) 
      · skip
        refine ev_b bX0_happy_18_21 (lv' := [(2, .int (nI (k))), (1, .int (nI (hapTo B.wo k))), (0, .ref 0)]) (st' := [.int (nI (k)), .int (nI (1)), .int (nI (hapTo B.wo k))]) (w2 := billW 0 B) rfl ?_
        refine ev_ishl_n (by omega) dX0_happy_21 ?_
        refine ev_ior_n dX0_happy_22 ?_
        refine ev_b bX0_happy_23_24 (lv' := [(1, .int (nI ((hapTo B.wo k) ||| (1 <<< k)))), (2, .int (nI (k))), (0, .ref 0)]) (st' := []) (w2 := billW 0 B) rfl ?_
        refine ev_iinc_n (x := k) (v := 1) dX0_happy_24 rfl (by decide) ?_
        refine ev_eq (lv' := [(2, .int (nI (k + 1))), (1, .int (nI ((hapTo B.wo k) ||| (1 <<< k)))), (0, .ref 0)]) rfl rfl rfl ?_
        refine ev_b bX0_happy_27_4 (lv' := [(2, .int (nI (k + 1))), (1, .int (nI ((hapTo B.wo k) ||| (1 <<< k)))), (0, .ref 0)]) (st' := []) (w2 := billW 0 B) rfl ?_
        rw [show nI (k + 1) = nI ((k + 1)) from congrArg nI (by omega)]
        rw [show nI ((hapTo B.wo k) ||| (1 <<< k)) = nI (hapTo B.wo (k + 1)) from congrArg nI (by rw [hapTo_s]; first | rw [if_neg (Int.not_lt.mpr h15)] | rw [if_pos (Int.not_le.mp h15)])]
        exact ih4 (k + 1) (by omega) 
  exact L4 5 0 (by omega) 
theorem bX0_payments_0_1 {l : Launch} {E : XE} : Snd l E mX0_payments 0 1 (xs [x_iload 1]) := Snd.cons (snd_iload_n (i := 1) dX0_payments_0 rfl) Snd.nil
theorem bX0_payments_28_32 {l : Launch} {E : XE} : Snd l E mX0_payments 28 32 (xs [x_aload 0, x_get 1 0]) := Snd.cons (snd_aload_n (i := 0) dX0_payments_28 rfl) (Snd.cons (snd_get (ci := 1) (k := 0) dX0_payments_29 rfl inX0 (by decide) tw_102) Snd.nil)
set_option maxHeartbeats 4000000 in
set_option maxRecDepth 100000 in
theorem m_X0_payments_0 {l : Launch} {E : XE} (B : BillN)  : MetE l E mX0_payments (0) 0 0 [.ref 0, .int (nI (0))] (billW 0 B) (fun r w' => r = some (.ref 1) ∧ w' = billW 0 B) := by
  refine MetE.of (by decide +kernel) (Nat.le_of_ble_eq_true rfl) ?_
  refine ev_eq (lv' := [(0, .ref 0), (1, .int (nI (0)))]) (st' := []) (w' := billW 0 B) rfl rfl rfl ?_
  refine ev_b bX0_payments_0_1 (lv' := [(0, .ref 0), (1, .int (nI (0)))]) (st' := [.int (nI (0))]) (w2 := billW 0 B) rfl ?_
  refine ev_lookup (off := 27) (tgt := 28) dX0_payments_1 (by decide) (by decide) (by decide) ?_
  refine ev_b bX0_payments_28_32 (lv' := [(0, .ref 0), (1, .int (nI (0)))]) (st' := [.ref 1]) (w2 := billW 0 B) rfl ?_
  exact ev_aret dX0_payments_32 rfl (Nat.le_of_ble_eq_true rfl) (Nat.le_refl _) (Nat.le_refl _) ⟨rfl, rfl⟩
theorem bX0_payments_33_37 {l : Launch} {E : XE} : Snd l E mX0_payments 33 37 (xs [x_aload 0, x_get 1 1]) := Snd.cons (snd_aload_n (i := 0) dX0_payments_33 rfl) (Snd.cons (snd_get (ci := 1) (k := 1) dX0_payments_34 rfl inX0 (by decide) tw_104) Snd.nil)
set_option maxHeartbeats 4000000 in
set_option maxRecDepth 100000 in
theorem m_X0_payments_1 {l : Launch} {E : XE} (B : BillN)  : MetE l E mX0_payments (0) 0 0 [.ref 0, .int (nI (1))] (billW 0 B) (fun r w' => r = some (.ref 2) ∧ w' = billW 0 B) := by
  refine MetE.of (by decide +kernel) (Nat.le_of_ble_eq_true rfl) ?_
  refine ev_eq (lv' := [(0, .ref 0), (1, .int (nI (1)))]) (st' := []) (w' := billW 0 B) rfl rfl rfl ?_
  refine ev_b bX0_payments_0_1 (lv' := [(0, .ref 0), (1, .int (nI (1)))]) (st' := [.int (nI (1))]) (w2 := billW 0 B) rfl ?_
  refine ev_lookup (off := 32) (tgt := 33) dX0_payments_1 (by decide) (by decide) (by decide) ?_
  refine ev_b bX0_payments_33_37 (lv' := [(0, .ref 0), (1, .int (nI (1)))]) (st' := [.ref 2]) (w2 := billW 0 B) rfl ?_
  exact ev_aret dX0_payments_37 rfl (Nat.le_of_ble_eq_true rfl) (Nat.le_refl _) (Nat.le_refl _) ⟨rfl, rfl⟩
theorem bX0_payments_38_42 {l : Launch} {E : XE} : Snd l E mX0_payments 38 42 (xs [x_aload 0, x_get 1 2]) := Snd.cons (snd_aload_n (i := 0) dX0_payments_38 rfl) (Snd.cons (snd_get (ci := 1) (k := 2) dX0_payments_39 rfl inX0 (by decide) tw_106) Snd.nil)
set_option maxHeartbeats 4000000 in
set_option maxRecDepth 100000 in
theorem m_X0_payments_2 {l : Launch} {E : XE} (B : BillN)  : MetE l E mX0_payments (0) 0 0 [.ref 0, .int (nI (2))] (billW 0 B) (fun r w' => r = some (.ref 3) ∧ w' = billW 0 B) := by
  refine MetE.of (by decide +kernel) (Nat.le_of_ble_eq_true rfl) ?_
  refine ev_eq (lv' := [(0, .ref 0), (1, .int (nI (2)))]) (st' := []) (w' := billW 0 B) rfl rfl rfl ?_
  refine ev_b bX0_payments_0_1 (lv' := [(0, .ref 0), (1, .int (nI (2)))]) (st' := [.int (nI (2))]) (w2 := billW 0 B) rfl ?_
  refine ev_lookup (off := 37) (tgt := 38) dX0_payments_1 (by decide) (by decide) (by decide) ?_
  refine ev_b bX0_payments_38_42 (lv' := [(0, .ref 0), (1, .int (nI (2)))]) (st' := [.ref 3]) (w2 := billW 0 B) rfl ?_
  exact ev_aret dX0_payments_42 rfl (Nat.le_of_ble_eq_true rfl) (Nat.le_refl _) (Nat.le_refl _) ⟨rfl, rfl⟩
theorem bX0_payment_0_1 {l : Launch} {E : XE} : Snd l E mX0_payment 0 1 (xs [x_iload 2]) := Snd.cons (snd_iload_n (i := 2) dX0_payment_0 rfl) Snd.nil
theorem bX0_payment_7_9 {l : Launch} {E : XE} : Snd l E mX0_payment 7 9 (xs [x_aload 0, x_iload 1]) := Snd.cons (snd_aload_n (i := 0) dX0_payment_7 rfl) (Snd.cons (snd_iload_n (i := 1) dX0_payment_8 rfl) Snd.nil)
theorem bX0_payment_12_13 {l : Launch} {E : XE} : Snd l E mX0_payment 12 13 (xs [x_iload 2]) := Snd.cons (snd_iload_n (i := 2) dX0_payment_12 rfl) Snd.nil
theorem bX0_payment_14_18 {l : Launch} {E : XE} : Snd l E mX0_payment 14 18 (xs [x_id]) := Snd.cons (snd_goto (tgt := 18) dX0_payment_14 (by decide)) Snd.nil
set_option maxHeartbeats 4000000 in
set_option maxRecDepth 100000 in
theorem m_X0_payment_0 {l : Launch} {E : XE} (B : BillN) (x : Nat) (hx : x < 5) : MetE l E mX0_payment (1) 0 0 [.ref 0, .int (nI (0)), .int (nI (x))] (billW 0 B) (fun r w' => r = some (.int (zI (B.wo x))) ∧ w' = billW 0 B) := by
  refine MetE.of (by decide +kernel) (Nat.le_of_ble_eq_true rfl) ?_
  refine ev_eq (lv' := [(0, .ref 0), (1, .int (nI (0))), (2, .int (nI (x)))]) (st' := []) (w' := billW 0 B) rfl rfl rfl ?_
  refine ev_b bX0_payment_0_1 (lv' := [(0, .ref 0), (1, .int (nI (0))), (2, .int (nI (x)))]) (st' := [.int (nI (x))]) (w2 := billW 0 B) rfl ?_
  refine ev_callSN (Yc := mX6_isBidder) [] dX0_payment_1 tn_745 kX6_isBidder (m_X6_isBidder x (by omega)) rfl (st := []) rfl (by decide) rfl (by decide) (Nat.le_of_ble_eq_true rfl) (Nat.le_refl _) (Nat.le_refl _) (fun r w' h => by obtain ⟨-, rfl⟩ := h; exact Nat.le_of_ble_eq_true rfl) ?_
  rintro _ _ ⟨rfl, rfl⟩
  refine ev_eq (lv' := [(0, .ref 0), (1, .int (nI (0))), (2, .int (nI (x)))]) (st' := [.int (nI (b01 (x < 5)))]) (w' := billW 0 B) rfl rfl rfl ?_
  refine ev_ifeq_b (tgt := 17) dX0_payment_4 (by decide) (fun h4 => (by exfalso; omega)) (fun h4 => ?_)
  refine ev_b bX0_payment_7_9 (lv' := [(0, .ref 0), (1, .int (nI (0))), (2, .int (nI (x)))]) (st' := [.int (nI (0)), .ref 0]) (w2 := billW 0 B) rfl ?_
  refine ev_callV (Yc := mX0_payments) [0, 1, 2, 3, 4] dX0_payment_9 tw_746 kX0_payments (m_X0_payments_0 B) rfl (st := []) rfl rfl rfl (by decide) rfl (by decide) (Nat.le_of_ble_eq_true rfl) (Nat.le_refl _) (Nat.le_refl _) (fun r w' h => by obtain ⟨-, rfl⟩ := h; exact Nat.le_of_ble_eq_true rfl) ?_
  rintro _ _ ⟨rfl, rfl⟩
  refine ev_eq (lv' := [(0, .ref 0), (1, .int (nI (0))), (2, .int (nI (x)))]) (st' := [.ref 1]) (w' := billW 0 B) rfl rfl rfl ?_
  refine ev_b bX0_payment_12_13 (lv' := [(0, .ref 0), (1, .int (nI (0))), (2, .int (nI (x)))]) (st' := [.int (nI (x)), .ref 1]) (w2 := billW 0 B) rfl ?_
  refine ev_iald_z (f := B.wo) dX0_payment_13 rfl (by omega) (by decide) ?_
  refine ev_b bX0_payment_14_18 (lv' := [(0, .ref 0), (1, .int (nI (0))), (2, .int (nI (x)))]) (st' := [.int (zI (B.wo x))]) (w2 := billW 0 B) rfl ?_
  exact ev_iret dX0_payment_18 rfl (Nat.le_of_ble_eq_true rfl) (Nat.le_refl _) (Nat.le_refl _) ⟨rfl, rfl⟩
set_option maxHeartbeats 4000000 in
set_option maxRecDepth 100000 in
theorem m_X0_payment_1 {l : Launch} {E : XE} (B : BillN) (x : Nat) (hx : x < 5) : MetE l E mX0_payment (1) 0 0 [.ref 0, .int (nI (1)), .int (nI (x))] (billW 0 B) (fun r w' => r = some (.int (zI (B.ha x))) ∧ w' = billW 0 B) := by
  refine MetE.of (by decide +kernel) (Nat.le_of_ble_eq_true rfl) ?_
  refine ev_eq (lv' := [(0, .ref 0), (1, .int (nI (1))), (2, .int (nI (x)))]) (st' := []) (w' := billW 0 B) rfl rfl rfl ?_
  refine ev_b bX0_payment_0_1 (lv' := [(0, .ref 0), (1, .int (nI (1))), (2, .int (nI (x)))]) (st' := [.int (nI (x))]) (w2 := billW 0 B) rfl ?_
  refine ev_callSN (Yc := mX6_isBidder) [] dX0_payment_1 tn_745 kX6_isBidder (m_X6_isBidder x (by omega)) rfl (st := []) rfl (by decide) rfl (by decide) (Nat.le_of_ble_eq_true rfl) (Nat.le_refl _) (Nat.le_refl _) (fun r w' h => by obtain ⟨-, rfl⟩ := h; exact Nat.le_of_ble_eq_true rfl) ?_
  rintro _ _ ⟨rfl, rfl⟩
  refine ev_eq (lv' := [(0, .ref 0), (1, .int (nI (1))), (2, .int (nI (x)))]) (st' := [.int (nI (b01 (x < 5)))]) (w' := billW 0 B) rfl rfl rfl ?_
  refine ev_ifeq_b (tgt := 17) dX0_payment_4 (by decide) (fun h4 => (by exfalso; omega)) (fun h4 => ?_)
  refine ev_b bX0_payment_7_9 (lv' := [(0, .ref 0), (1, .int (nI (1))), (2, .int (nI (x)))]) (st' := [.int (nI (1)), .ref 0]) (w2 := billW 0 B) rfl ?_
  refine ev_callV (Yc := mX0_payments) [0, 1, 2, 3, 4] dX0_payment_9 tw_746 kX0_payments (m_X0_payments_1 B) rfl (st := []) rfl rfl rfl (by decide) rfl (by decide) (Nat.le_of_ble_eq_true rfl) (Nat.le_refl _) (Nat.le_refl _) (fun r w' h => by obtain ⟨-, rfl⟩ := h; exact Nat.le_of_ble_eq_true rfl) ?_
  rintro _ _ ⟨rfl, rfl⟩
  refine ev_eq (lv' := [(0, .ref 0), (1, .int (nI (1))), (2, .int (nI (x)))]) (st' := [.ref 2]) (w' := billW 0 B) rfl rfl rfl ?_
  refine ev_b bX0_payment_12_13 (lv' := [(0, .ref 0), (1, .int (nI (1))), (2, .int (nI (x)))]) (st' := [.int (nI (x)), .ref 2]) (w2 := billW 0 B) rfl ?_
  refine ev_iald_z (f := B.ha) dX0_payment_13 rfl (by omega) (by decide) ?_
  refine ev_b bX0_payment_14_18 (lv' := [(0, .ref 0), (1, .int (nI (1))), (2, .int (nI (x)))]) (st' := [.int (zI (B.ha x))]) (w2 := billW 0 B) rfl ?_
  exact ev_iret dX0_payment_18 rfl (Nat.le_of_ble_eq_true rfl) (Nat.le_refl _) (Nat.le_refl _) ⟨rfl, rfl⟩
set_option maxHeartbeats 4000000 in
set_option maxRecDepth 100000 in
theorem m_X0_payment_2 {l : Launch} {E : XE} (B : BillN) (x : Nat) (hx : x < 5) : MetE l E mX0_payment (1) 0 0 [.ref 0, .int (nI (2)), .int (nI (x))] (billW 0 B) (fun r w' => r = some (.int (zI (B.li x))) ∧ w' = billW 0 B) := by
  refine MetE.of (by decide +kernel) (Nat.le_of_ble_eq_true rfl) ?_
  refine ev_eq (lv' := [(0, .ref 0), (1, .int (nI (2))), (2, .int (nI (x)))]) (st' := []) (w' := billW 0 B) rfl rfl rfl ?_
  refine ev_b bX0_payment_0_1 (lv' := [(0, .ref 0), (1, .int (nI (2))), (2, .int (nI (x)))]) (st' := [.int (nI (x))]) (w2 := billW 0 B) rfl ?_
  refine ev_callSN (Yc := mX6_isBidder) [] dX0_payment_1 tn_745 kX6_isBidder (m_X6_isBidder x (by omega)) rfl (st := []) rfl (by decide) rfl (by decide) (Nat.le_of_ble_eq_true rfl) (Nat.le_refl _) (Nat.le_refl _) (fun r w' h => by obtain ⟨-, rfl⟩ := h; exact Nat.le_of_ble_eq_true rfl) ?_
  rintro _ _ ⟨rfl, rfl⟩
  refine ev_eq (lv' := [(0, .ref 0), (1, .int (nI (2))), (2, .int (nI (x)))]) (st' := [.int (nI (b01 (x < 5)))]) (w' := billW 0 B) rfl rfl rfl ?_
  refine ev_ifeq_b (tgt := 17) dX0_payment_4 (by decide) (fun h4 => (by exfalso; omega)) (fun h4 => ?_)
  refine ev_b bX0_payment_7_9 (lv' := [(0, .ref 0), (1, .int (nI (2))), (2, .int (nI (x)))]) (st' := [.int (nI (2)), .ref 0]) (w2 := billW 0 B) rfl ?_
  refine ev_callV (Yc := mX0_payments) [0, 1, 2, 3, 4] dX0_payment_9 tw_746 kX0_payments (m_X0_payments_2 B) rfl (st := []) rfl rfl rfl (by decide) rfl (by decide) (Nat.le_of_ble_eq_true rfl) (Nat.le_refl _) (Nat.le_refl _) (fun r w' h => by obtain ⟨-, rfl⟩ := h; exact Nat.le_of_ble_eq_true rfl) ?_
  rintro _ _ ⟨rfl, rfl⟩
  refine ev_eq (lv' := [(0, .ref 0), (1, .int (nI (2))), (2, .int (nI (x)))]) (st' := [.ref 3]) (w' := billW 0 B) rfl rfl rfl ?_
  refine ev_b bX0_payment_12_13 (lv' := [(0, .ref 0), (1, .int (nI (2))), (2, .int (nI (x)))]) (st' := [.int (nI (x)), .ref 3]) (w2 := billW 0 B) rfl ?_
  refine ev_iald_z (f := B.li) dX0_payment_13 rfl (by omega) (by decide) ?_
  refine ev_b bX0_payment_14_18 (lv' := [(0, .ref 0), (1, .int (nI (2))), (2, .int (nI (x)))]) (st' := [.int (zI (B.li x))]) (w2 := billW 0 B) rfl ?_
  exact ev_iret dX0_payment_18 rfl (Nat.le_of_ble_eq_true rfl) (Nat.le_refl _) (Nat.le_refl _) ⟨rfl, rfl⟩
