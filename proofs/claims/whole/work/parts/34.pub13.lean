theorem bX6_rank_25_33 {l : Launch} {E : XE} : Snd l E mX6_rank 25 33 (xs [x_aload 0, x_get 7 3, x_aload 0, x_get 7 0]) := Snd.cons (snd_aload_n (i := 0) dX6_rank_25 rfl) (Snd.cons (snd_get (ci := 7) (k := 3) dX6_rank_26 rfl inX6 (by decide) tw_210) (Snd.cons (snd_aload_n (i := 0) dX6_rank_29 rfl) (Snd.cons (snd_get (ci := 7) (k := 0) dX6_rank_30 rfl inX6 (by decide) tw_207) Snd.nil)))
theorem bX6_rank_36_44 {l : Launch} {E : XE} : Snd l E mX6_rank 36 44 (xs [x_iload 1, x_aload 0, x_get 7 3, x_get 2 5]) := Snd.cons (snd_iload_n (i := 1) dX6_rank_36 rfl) (Snd.cons (snd_aload_n (i := 0) dX6_rank_37 rfl) (Snd.cons (snd_get (ci := 7) (k := 3) dX6_rank_38 rfl inX6 (by decide) tw_210) (Snd.cons (snd_getN (ci := 2) (k := 5) dX6_rank_41 rfl inX1 (by decide) tn_82) Snd.nil)))
theorem bX6_rank_47_49 {l : Launch} {E : XE} : Snd l E mX6_rank 47 49 (xs [x_push (.int (-9))]) := Snd.cons (snd_bipush (v := -9) dX6_rank_47 (by decide)) Snd.nil
set_option maxHeartbeats 4000000 in
set_option maxRecDepth 100000 in
theorem p_rank_none0 {l : Launch} {E : XE} (T : TopN) (S P U : SaleN) (O : OutN) (B : BillN) (Q : SeaN) (C : ScrN) (R : PrtN) (tl rf : Nat → Nat) (k : Nat) (hS : SaleOK S) (hQ : Q.fd < 2147483648) (hk : k < 2147483648) (h : (keysOf S (packsN S S.ca)).length ≤ k) : MetE l E mX6_rank (4) 0 0 [.ref 0, .int (nI (k)), .int (nI (0))] (compW T S P U O B Q C R tl rf) (CP T S P (C.lt) (C.sz) tl rf (some (.int (-9)))) := by
  refine MetE.of (by decide +kernel) (Nat.le_of_ble_eq_true rfl) ?_
  have hca := hS.1
  have hpw := pow_ca hS
  have hac := ac_lt hS
  
  refine ev_eq (lv' := [(0, .ref 0), (1, .int (nI (k))), (2, .int (nI (0)))]) (st' := []) (w' := compW T S P U O B Q C R tl rf) rfl rfl rfl ?_
  refine ev_b bX6_rank_0_1 (lv' := [(0, .ref 0), (1, .int (nI (k))), (2, .int (nI (0)))]) (st' := [.int (nI (k))]) (w2 := compW T S P U O B Q C R tl rf) rfl ?_
  refine ev_if_ge_n (tgt := 11) (by omega) dX6_rank_1 (by decide) (fun h1 => ?_) (fun h1 => (by exfalso; omega))
  refine ev_b bX6_rank_11_12 (lv' := [(0, .ref 0), (1, .int (nI (k))), (2, .int (nI (0)))]) (st' := [.int (nI (0))]) (w2 := compW T S P U O B Q C R tl rf) rfl ?_
  refine ev_callS (Yc := mX6_isEither) [] dX6_rank_12 tw_667 kX6_isEither m_X6_isEither_0 rfl (st := []) rfl (by decide) rfl (by decide) (Nat.le_of_ble_eq_true rfl) (Nat.le_refl _) (Nat.le_refl _) (fun r w' h => by obtain ⟨-, rfl⟩ := h; exact Nat.le_of_ble_eq_true rfl) ?_
  rintro _ _ ⟨rfl, rfl⟩
  refine ev_eq (lv' := [(0, .ref 0), (1, .int (nI (k))), (2, .int (nI (0)))]) (st' := [.int (nI (1))]) (w' := compW T S P U O B Q C R tl rf) rfl rfl rfl ?_
  refine ev_if_ne_n (tgt := 25) (by decide) dX6_rank_15 (by decide) (fun h15 => ?_) (fun h15 => (by exfalso; omega))
  refine ev_b bX6_rank_25_33 (lv' := [(0, .ref 0), (1, .int (nI (k))), (2, .int (nI (0)))]) (st' := [.ref 1, .ref 25]) (w2 := compW T S P U O B Q C R tl rf) rfl ?_
  refine ev_callVN (Yc := mX1_gather) [25, 26, 27, 28, 29, 1, 2, 3, 4, 5, 6, 7, 8] dX6_rank_33 tn_497 kX1_gather (m_X1_gather O S hS) rfl (st := []) rfl rfl rfl (by decide) hw_comp__25_1 (by decide) (Nat.le_of_ble_eq_true rfl) (Nat.le_refl _) (Nat.le_refl _) (fun r w' h => by obtain ⟨-, O', rfl, -⟩ := h; exact Nat.le_of_ble_eq_true rfl) ?_
  rintro _ _ ⟨rfl, O1, rfl, hK1⟩
  refine ev_eq (lv' := [(0, .ref 0), (1, .int (nI (k))), (2, .int (nI (0)))]) (st' := []) (w' := compW T S P U O1 B Q C R tl rf) rfl rfl xp_comp__25_1 ?_
  have hszl := hK1.1
  have hszb := (keys_ok hS hK1).1
  refine ev_b bX6_rank_36_44 (lv' := [(0, .ref 0), (1, .int (nI (k))), (2, .int (nI (0)))]) (st' := [.int (nI (O1.sz)), .int (nI (k))]) (w2 := compW T S P U O1 B Q C R tl rf) rfl ?_
  refine ev_icmp_lt_n (tgt := 50) (by omega) (by omega) dX6_rank_44 (by decide) (fun h44 => (by exfalso; omega)) (fun h44 => ?_)
  refine ev_b bX6_rank_47_49 (lv' := [(0, .ref 0), (1, .int (nI (k))), (2, .int (nI (0)))]) (st' := [.int (-9)]) (w2 := compW T S P U O1 B Q C R tl rf) rfl ?_
  exact ev_iret dX6_rank_49 rfl (Nat.le_refl 49) (Nat.le_refl _) (Nat.le_refl _) ⟨rfl, _, _, _, _, _, _, rfl, hQ, rfl, rfl⟩
theorem bX6_rank_50_55 {l : Launch} {E : XE} : Snd l E mX6_rank 50 55 (xs [x_aload 0, x_get 7 3, x_iload 1]) := Snd.cons (snd_aload_n (i := 0) dX6_rank_50 rfl) (Snd.cons (snd_get (ci := 7) (k := 3) dX6_rank_51 rfl inX6 (by decide) tw_210) (Snd.cons (snd_iload_n (i := 1) dX6_rank_54 rfl) Snd.nil))
theorem bX6_rank_58_59 {l : Launch} {E : XE} : Snd l E mX6_rank 58 59 (xs [x_iload 2]) := Snd.cons (snd_iload_n (i := 2) dX6_rank_58 rfl) Snd.nil
set_option maxHeartbeats 4000000 in
set_option maxRecDepth 100000 in
theorem p_rank_w0 {l : Launch} {E : XE} (T : TopN) (S P U : SaleN) (O : OutN) (B : BillN) (Q : SeaN) (C : ScrN) (R : PrtN) (tl rf : Nat → Nat) (k : Nat) (hS : SaleOK S) (hQ : Q.fd < 2147483648) (hk : k < 2147483648) (h : k < (keysOf S (packsN S S.ca)).length) : MetE l E mX6_rank (4) 0 0 [.ref 0, .int (nI (k)), .int (nI (0))] (compW T S P U O B Q C R tl rf) (CP T S P (C.lt) (C.sz) tl rf (some (.int (nI (bidsN (nextLs (keysOf S (packsN S S.ca)) (rankLs (keysOf S (packsN S S.ca)) k))))))) := by
  refine MetE.of (by decide +kernel) (Nat.le_of_ble_eq_true rfl) ?_
  have hca := hS.1
  have hpw := pow_ca hS
  have hac := ac_lt hS
  
  refine ev_eq (lv' := [(0, .ref 0), (1, .int (nI (k))), (2, .int (nI (0)))]) (st' := []) (w' := compW T S P U O B Q C R tl rf) rfl rfl rfl ?_
  refine ev_b bX6_rank_0_1 (lv' := [(0, .ref 0), (1, .int (nI (k))), (2, .int (nI (0)))]) (st' := [.int (nI (k))]) (w2 := compW T S P U O B Q C R tl rf) rfl ?_
  refine ev_if_ge_n (tgt := 11) (by omega) dX6_rank_1 (by decide) (fun h1 => ?_) (fun h1 => (by exfalso; omega))
  refine ev_b bX6_rank_11_12 (lv' := [(0, .ref 0), (1, .int (nI (k))), (2, .int (nI (0)))]) (st' := [.int (nI (0))]) (w2 := compW T S P U O B Q C R tl rf) rfl ?_
  refine ev_callS (Yc := mX6_isEither) [] dX6_rank_12 tw_667 kX6_isEither m_X6_isEither_0 rfl (st := []) rfl (by decide) rfl (by decide) (Nat.le_of_ble_eq_true rfl) (Nat.le_refl _) (Nat.le_refl _) (fun r w' h => by obtain ⟨-, rfl⟩ := h; exact Nat.le_of_ble_eq_true rfl) ?_
  rintro _ _ ⟨rfl, rfl⟩
  refine ev_eq (lv' := [(0, .ref 0), (1, .int (nI (k))), (2, .int (nI (0)))]) (st' := [.int (nI (1))]) (w' := compW T S P U O B Q C R tl rf) rfl rfl rfl ?_
  refine ev_if_ne_n (tgt := 25) (by decide) dX6_rank_15 (by decide) (fun h15 => ?_) (fun h15 => (by exfalso; omega))
  refine ev_b bX6_rank_25_33 (lv' := [(0, .ref 0), (1, .int (nI (k))), (2, .int (nI (0)))]) (st' := [.ref 1, .ref 25]) (w2 := compW T S P U O B Q C R tl rf) rfl ?_
  refine ev_callVN (Yc := mX1_gather) [25, 26, 27, 28, 29, 1, 2, 3, 4, 5, 6, 7, 8] dX6_rank_33 tn_497 kX1_gather (m_X1_gather O S hS) rfl (st := []) rfl rfl rfl (by decide) hw_comp__25_1 (by decide) (Nat.le_of_ble_eq_true rfl) (Nat.le_refl _) (Nat.le_refl _) (fun r w' h => by obtain ⟨-, O', rfl, -⟩ := h; exact Nat.le_of_ble_eq_true rfl) ?_
  rintro _ _ ⟨rfl, O1, rfl, hK1⟩
  refine ev_eq (lv' := [(0, .ref 0), (1, .int (nI (k))), (2, .int (nI (0)))]) (st' := []) (w' := compW T S P U O1 B Q C R tl rf) rfl rfl xp_comp__25_1 ?_
  have hszl := hK1.1
  have hszb := (keys_ok hS hK1).1
  refine ev_b bX6_rank_36_44 (lv' := [(0, .ref 0), (1, .int (nI (k))), (2, .int (nI (0)))]) (st' := [.int (nI (O1.sz)), .int (nI (k))]) (w2 := compW T S P U O1 B Q C R tl rf) rfl ?_
  refine ev_icmp_lt_n (tgt := 50) (by omega) (by omega) dX6_rank_44 (by decide) (fun h44 => ?_) (fun h44 => (by exfalso; omega))
  refine ev_b bX6_rank_50_55 (lv' := [(0, .ref 0), (1, .int (nI (k))), (2, .int (nI (0)))]) (st' := [.int (nI (k)), .ref 25]) (w2 := compW T S P U O1 B Q C R tl rf) rfl ?_
  refine ev_callVN (Yc := mX1_ranked) [25, 26, 27, 28, 29] dX6_rank_55 tn_670 kX1_ranked (m_X1_ranked O1 k (keys_ok hS hK1) (by omega)) rfl (st := []) rfl rfl rfl (by decide) hw_comp__25 (by decide) (Nat.le_of_ble_eq_true rfl) (Nat.le_refl _) (Nat.le_refl _) (fun r w' h => by obtain ⟨-, rfl⟩ := h; exact Nat.le_of_ble_eq_true rfl) ?_
  rintro _ _ ⟨rfl, rfl⟩
  refine ev_eq (lv' := [(0, .ref 0), (1, .int (nI (k))), (2, .int (nI (0)))]) (st' := [.int (zI (rankTo O1 (k + 1)))]) (w' := compW T S P U O1 B Q C R tl rf) rfl rfl xp_comp__25 ?_
  refine ev_top (y := (nI (nextLs (keysOf S (packsN S S.ca)) (rankLs (keysOf S (packsN S S.ca)) k)))) (by rw [show rankTo O1 (k + 1) = ((nextLs (keysOf S (packsN S S.ca)) (rankLs (keysOf S (packsN S S.ca)) k) : Nat) : Int) from by exact rank_L hK1 (k + 1)]; exact zI_nat _) ?_
  refine ev_b bX6_rank_58_59 (lv' := [(0, .ref 0), (1, .int (nI (k))), (2, .int (nI (0)))]) (st' := [.int (nI (0)), .int (nI (nextLs (keysOf S (packsN S S.ca)) (rankLs (keysOf S (packsN S S.ca)) k)))]) (w2 := compW T S P U O1 B Q C R tl rf) rfl ?_
  refine ev_callS (Yc := mX6_bidsOrWorth) [] dX6_rank_59 tw_678 kX6_bidsOrWorth (m_X6_bidsOrWorth_0 (nextLs (keysOf S (packsN S S.ca)) (rankLs (keysOf S (packsN S S.ca)) k))) rfl (st := []) rfl (by decide) rfl (by decide) (Nat.le_of_ble_eq_true rfl) (Nat.le_refl _) (Nat.le_refl _) (fun r w' h => by obtain ⟨-, rfl⟩ := h; exact Nat.le_of_ble_eq_true rfl) ?_
  rintro _ _ ⟨rfl, rfl⟩
  refine ev_eq (lv' := [(0, .ref 0), (1, .int (nI (k))), (2, .int (nI (0)))]) (st' := [.int (nI (bidsN (nextLs (keysOf S (packsN S S.ca)) (rankLs (keysOf S (packsN S S.ca)) k))))]) (w' := compW T S P U O1 B Q C R tl rf) rfl rfl rfl ?_
  exact ev_iret dX6_rank_62 rfl (Nat.le_refl 49) (Nat.le_refl _) (Nat.le_refl _) ⟨rfl, _, _, _, _, _, _, rfl, hQ, rfl, rfl⟩
set_option maxHeartbeats 4000000 in
set_option maxRecDepth 100000 in
theorem p_rank_none1 {l : Launch} {E : XE} (T : TopN) (S P U : SaleN) (O : OutN) (B : BillN) (Q : SeaN) (C : ScrN) (R : PrtN) (tl rf : Nat → Nat) (k : Nat) (hS : SaleOK S) (hQ : Q.fd < 2147483648) (hk : k < 2147483648) (h : (keysOf S (packsN S S.ca)).length ≤ k) : MetE l E mX6_rank (4) 0 0 [.ref 0, .int (nI (k)), .int (nI (1))] (compW T S P U O B Q C R tl rf) (CP T S P (C.lt) (C.sz) tl rf (some (.int (-9)))) := by
  refine MetE.of (by decide +kernel) (Nat.le_of_ble_eq_true rfl) ?_
  have hca := hS.1
  have hpw := pow_ca hS
  have hac := ac_lt hS
  
  refine ev_eq (lv' := [(0, .ref 0), (1, .int (nI (k))), (2, .int (nI (1)))]) (st' := []) (w' := compW T S P U O B Q C R tl rf) rfl rfl rfl ?_
  refine ev_b bX6_rank_0_1 (lv' := [(0, .ref 0), (1, .int (nI (k))), (2, .int (nI (1)))]) (st' := [.int (nI (k))]) (w2 := compW T S P U O B Q C R tl rf) rfl ?_
  refine ev_if_ge_n (tgt := 11) (by omega) dX6_rank_1 (by decide) (fun h1 => ?_) (fun h1 => (by exfalso; omega))
  refine ev_b bX6_rank_11_12 (lv' := [(0, .ref 0), (1, .int (nI (k))), (2, .int (nI (1)))]) (st' := [.int (nI (1))]) (w2 := compW T S P U O B Q C R tl rf) rfl ?_
  refine ev_callS (Yc := mX6_isEither) [] dX6_rank_12 tw_667 kX6_isEither m_X6_isEither_1 rfl (st := []) rfl (by decide) rfl (by decide) (Nat.le_of_ble_eq_true rfl) (Nat.le_refl _) (Nat.le_refl _) (fun r w' h => by obtain ⟨-, rfl⟩ := h; exact Nat.le_of_ble_eq_true rfl) ?_
  rintro _ _ ⟨rfl, rfl⟩
  refine ev_eq (lv' := [(0, .ref 0), (1, .int (nI (k))), (2, .int (nI (1)))]) (st' := [.int (nI (1))]) (w' := compW T S P U O B Q C R tl rf) rfl rfl rfl ?_
  refine ev_if_ne_n (tgt := 25) (by decide) dX6_rank_15 (by decide) (fun h15 => ?_) (fun h15 => (by exfalso; omega))
  refine ev_b bX6_rank_25_33 (lv' := [(0, .ref 0), (1, .int (nI (k))), (2, .int (nI (1)))]) (st' := [.ref 1, .ref 25]) (w2 := compW T S P U O B Q C R tl rf) rfl ?_
  refine ev_callVN (Yc := mX1_gather) [25, 26, 27, 28, 29, 1, 2, 3, 4, 5, 6, 7, 8] dX6_rank_33 tn_497 kX1_gather (m_X1_gather O S hS) rfl (st := []) rfl rfl rfl (by decide) hw_comp__25_1 (by decide) (Nat.le_of_ble_eq_true rfl) (Nat.le_refl _) (Nat.le_refl _) (fun r w' h => by obtain ⟨-, O', rfl, -⟩ := h; exact Nat.le_of_ble_eq_true rfl) ?_
  rintro _ _ ⟨rfl, O1, rfl, hK1⟩
  refine ev_eq (lv' := [(0, .ref 0), (1, .int (nI (k))), (2, .int (nI (1)))]) (st' := []) (w' := compW T S P U O1 B Q C R tl rf) rfl rfl xp_comp__25_1 ?_
  have hszl := hK1.1
  have hszb := (keys_ok hS hK1).1
  refine ev_b bX6_rank_36_44 (lv' := [(0, .ref 0), (1, .int (nI (k))), (2, .int (nI (1)))]) (st' := [.int (nI (O1.sz)), .int (nI (k))]) (w2 := compW T S P U O1 B Q C R tl rf) rfl ?_
  refine ev_icmp_lt_n (tgt := 50) (by omega) (by omega) dX6_rank_44 (by decide) (fun h44 => (by exfalso; omega)) (fun h44 => ?_)
  refine ev_b bX6_rank_47_49 (lv' := [(0, .ref 0), (1, .int (nI (k))), (2, .int (nI (1)))]) (st' := [.int (-9)]) (w2 := compW T S P U O1 B Q C R tl rf) rfl ?_
  exact ev_iret dX6_rank_49 rfl (Nat.le_refl 49) (Nat.le_refl _) (Nat.le_refl _) ⟨rfl, _, _, _, _, _, _, rfl, hQ, rfl, rfl⟩
set_option maxHeartbeats 4000000 in
set_option maxRecDepth 100000 in
theorem p_rank_w1 {l : Launch} {E : XE} (T : TopN) (S P U : SaleN) (O : OutN) (B : BillN) (Q : SeaN) (C : ScrN) (R : PrtN) (tl rf : Nat → Nat) (k : Nat) (hS : SaleOK S) (hQ : Q.fd < 2147483648) (hk : k < 2147483648) (h : k < (keysOf S (packsN S S.ca)).length) (hk1 : (nextLs (keysOf S (packsN S S.ca)) (rankLs (keysOf S (packsN S S.ca)) k)) < 2147483648) (hk2 : (nextLs (keysOf S (packsN S S.ca)) (rankLs (keysOf S (packsN S S.ca)) k)) >>> 14 ≤ 1023) : MetE l E mX6_rank (4) 0 0 [.ref 0, .int (nI (k)), .int (nI (1))] (compW T S P U O B Q C R tl rf) (CP T S P (C.lt) (C.sz) tl rf (some (.int (nI (worthK (nextLs (keysOf S (packsN S S.ca)) (rankLs (keysOf S (packsN S S.ca)) k))))))) := by
  refine MetE.of (by decide +kernel) (Nat.le_of_ble_eq_true rfl) ?_
  have hca := hS.1
  have hpw := pow_ca hS
  have hac := ac_lt hS
  
  refine ev_eq (lv' := [(0, .ref 0), (1, .int (nI (k))), (2, .int (nI (1)))]) (st' := []) (w' := compW T S P U O B Q C R tl rf) rfl rfl rfl ?_
  refine ev_b bX6_rank_0_1 (lv' := [(0, .ref 0), (1, .int (nI (k))), (2, .int (nI (1)))]) (st' := [.int (nI (k))]) (w2 := compW T S P U O B Q C R tl rf) rfl ?_
  refine ev_if_ge_n (tgt := 11) (by omega) dX6_rank_1 (by decide) (fun h1 => ?_) (fun h1 => (by exfalso; omega))
  refine ev_b bX6_rank_11_12 (lv' := [(0, .ref 0), (1, .int (nI (k))), (2, .int (nI (1)))]) (st' := [.int (nI (1))]) (w2 := compW T S P U O B Q C R tl rf) rfl ?_
  refine ev_callS (Yc := mX6_isEither) [] dX6_rank_12 tw_667 kX6_isEither m_X6_isEither_1 rfl (st := []) rfl (by decide) rfl (by decide) (Nat.le_of_ble_eq_true rfl) (Nat.le_refl _) (Nat.le_refl _) (fun r w' h => by obtain ⟨-, rfl⟩ := h; exact Nat.le_of_ble_eq_true rfl) ?_
  rintro _ _ ⟨rfl, rfl⟩
  refine ev_eq (lv' := [(0, .ref 0), (1, .int (nI (k))), (2, .int (nI (1)))]) (st' := [.int (nI (1))]) (w' := compW T S P U O B Q C R tl rf) rfl rfl rfl ?_
  refine ev_if_ne_n (tgt := 25) (by decide) dX6_rank_15 (by decide) (fun h15 => ?_) (fun h15 => (by exfalso; omega))
  refine ev_b bX6_rank_25_33 (lv' := [(0, .ref 0), (1, .int (nI (k))), (2, .int (nI (1)))]) (st' := [.ref 1, .ref 25]) (w2 := compW T S P U O B Q C R tl rf) rfl ?_
  refine ev_callVN (Yc := mX1_gather) [25, 26, 27, 28, 29, 1, 2, 3, 4, 5, 6, 7, 8] dX6_rank_33 tn_497 kX1_gather (m_X1_gather O S hS) rfl (st := []) rfl rfl rfl (by decide) hw_comp__25_1 (by decide) (Nat.le_of_ble_eq_true rfl) (Nat.le_refl _) (Nat.le_refl _) (fun r w' h => by obtain ⟨-, O', rfl, -⟩ := h; exact Nat.le_of_ble_eq_true rfl) ?_
  rintro _ _ ⟨rfl, O1, rfl, hK1⟩
  refine ev_eq (lv' := [(0, .ref 0), (1, .int (nI (k))), (2, .int (nI (1)))]) (st' := []) (w' := compW T S P U O1 B Q C R tl rf) rfl rfl xp_comp__25_1 ?_
  have hszl := hK1.1
  have hszb := (keys_ok hS hK1).1
  refine ev_b bX6_rank_36_44 (lv' := [(0, .ref 0), (1, .int (nI (k))), (2, .int (nI (1)))]) (st' := [.int (nI (O1.sz)), .int (nI (k))]) (w2 := compW T S P U O1 B Q C R tl rf) rfl ?_
  refine ev_icmp_lt_n (tgt := 50) (by omega) (by omega) dX6_rank_44 (by decide) (fun h44 => ?_) (fun h44 => (by exfalso; omega))
  refine ev_b bX6_rank_50_55 (lv' := [(0, .ref 0), (1, .int (nI (k))), (2, .int (nI (1)))]) (st' := [.int (nI (k)), .ref 25]) (w2 := compW T S P U O1 B Q C R tl rf) rfl ?_
  refine ev_callVN (Yc := mX1_ranked) [25, 26, 27, 28, 29] dX6_rank_55 tn_670 kX1_ranked (m_X1_ranked O1 k (keys_ok hS hK1) (by omega)) rfl (st := []) rfl rfl rfl (by decide) hw_comp__25 (by decide) (Nat.le_of_ble_eq_true rfl) (Nat.le_refl _) (Nat.le_refl _) (fun r w' h => by obtain ⟨-, rfl⟩ := h; exact Nat.le_of_ble_eq_true rfl) ?_
  rintro _ _ ⟨rfl, rfl⟩
  refine ev_eq (lv' := [(0, .ref 0), (1, .int (nI (k))), (2, .int (nI (1)))]) (st' := [.int (zI (rankTo O1 (k + 1)))]) (w' := compW T S P U O1 B Q C R tl rf) rfl rfl xp_comp__25 ?_
  refine ev_top (y := (nI (nextLs (keysOf S (packsN S S.ca)) (rankLs (keysOf S (packsN S S.ca)) k)))) (by rw [show rankTo O1 (k + 1) = ((nextLs (keysOf S (packsN S S.ca)) (rankLs (keysOf S (packsN S S.ca)) k) : Nat) : Int) from by exact rank_L hK1 (k + 1)]; exact zI_nat _) ?_
  refine ev_b bX6_rank_58_59 (lv' := [(0, .ref 0), (1, .int (nI (k))), (2, .int (nI (1)))]) (st' := [.int (nI (1)), .int (nI (nextLs (keysOf S (packsN S S.ca)) (rankLs (keysOf S (packsN S S.ca)) k)))]) (w2 := compW T S P U O1 B Q C R tl rf) rfl ?_
  refine ev_callS (Yc := mX6_bidsOrWorth) [] dX6_rank_59 tw_678 kX6_bidsOrWorth (m_X6_bidsOrWorth_1 (nextLs (keysOf S (packsN S S.ca)) (rankLs (keysOf S (packsN S S.ca)) k)) hk1 hk2) rfl (st := []) rfl (by decide) rfl (by decide) (Nat.le_of_ble_eq_true rfl) (Nat.le_refl _) (Nat.le_refl _) (fun r w' h => by obtain ⟨-, rfl⟩ := h; exact Nat.le_of_ble_eq_true rfl) ?_
  rintro _ _ ⟨rfl, rfl⟩
  refine ev_eq (lv' := [(0, .ref 0), (1, .int (nI (k))), (2, .int (nI (1)))]) (st' := [.int (nI (worthK (nextLs (keysOf S (packsN S S.ca)) (rankLs (keysOf S (packsN S S.ca)) k))))]) (w' := compW T S P U O1 B Q C R tl rf) rfl rfl rfl ?_
  exact ev_iret dX6_rank_62 rfl (Nat.le_refl 49) (Nat.le_refl _) (Nat.le_refl _) ⟨rfl, _, _, _, _, _, _, rfl, hQ, rfl, rfl⟩
