theorem bX6_judge_0_1 {l : Launch} {E : XE} : Snd l E mX6_judge 0 1 (xs [x_iload 1]) := Snd.cons (snd_iload_n (i := 1) dX6_judge_0 rfl) Snd.nil
theorem bX6_judge_7_10 {l : Launch} {E : XE} : Snd l E mX6_judge 7 10 (xs [x_aload 0, x_push (.int (-2))]) := Snd.cons (snd_aload_n (i := 0) dX6_judge_7 rfl) (Snd.cons (snd_bipush (v := -2) dX6_judge_8 (by decide)) Snd.nil)
set_option maxHeartbeats 4000000 in
set_option maxRecDepth 100000 in
theorem p_judge_2 {l : Launch} {E : XE} (T : TopN) (S P U : SaleN) (O : OutN) (B : BillN) (Q : SeaN) (C : ScrN) (R : PrtN) (tl rf : Nat → Nat) (z1 : Int) (hS : SaleOK S) (hQ : Q.fd < 2147483648) (rz1 : -2147483648 ≤ z1 ∧ z1 < 2147483648) (h : ¬ (0 ≤ z1 ∧ z1 < 3)) : MetE l E mX6_judge (1) 0 0 [.ref 0, .int (zI (z1))] (compW T S P U O B Q C R tl rf) (CP T S P (C.lt) (C.sz) tl (up rf 2 (rf 2 + 1)) (some (.int (-2)))) := by
  refine MetE.of (by decide +kernel) (Nat.le_of_ble_eq_true rfl) ?_
  have hca := hS.1
  have hpw := pow_ca hS
  have hac := ac_lt hS
  
  refine ev_eq (lv' := [(0, .ref 0), (1, .int (zI (z1)))]) (st' := []) (w' := compW T S P U O B Q C R tl rf) rfl rfl rfl ?_
  refine ev_b bX6_judge_0_1 (lv' := [(0, .ref 0), (1, .int (zI (z1)))]) (st' := [.int (zI (z1))]) (w2 := compW T S P U O B Q C R tl rf) rfl ?_
  refine ev_callS (Yc := mX6_isHow) [] dX6_judge_1 tw_711 kX6_isHow (m_X6_isHow_z z1 rz1) rfl (st := []) rfl (by decide) rfl (by decide) (Nat.le_of_ble_eq_true rfl) (Nat.le_refl _) (Nat.le_refl _) (fun r w' h => by obtain ⟨-, rfl⟩ := h; exact Nat.le_of_ble_eq_true rfl) ?_
  rintro _ _ ⟨rfl, rfl⟩
  refine ev_eq (lv' := [(0, .ref 0), (1, .int (zI (z1)))]) (st' := [.int (nI (b01 (0 ≤ z1 ∧ z1 < 3)))]) (w' := compW T S P U O B Q C R tl rf) rfl rfl rfl ?_
  refine ev_ifne_b (tgt := 14) dX6_judge_4 (by decide) (fun h4 => (by exfalso; omega)) (fun h4 => ?_)
  refine ev_b bX6_judge_7_10 (lv' := [(0, .ref 0), (1, .int (zI (z1)))]) (st' := [.int (-2), .ref 0]) (w2 := compW T S P U O B Q C R tl rf) rfl ?_
  refine ev_callV (Yc := mX6_refuse) (rng 0 49) dX6_judge_10 tw_248 kX6_refuse (m_X6_refuse_2 T S P U O B Q C R tl rf) rfl (st := []) rfl rfl rfl (by decide) (same_hw (compW T S P U O B Q C R tl rf)) (by decide) (Nat.le_of_ble_eq_true rfl) (Nat.le_refl _) (Nat.le_refl _) (fun r w' h => by obtain ⟨-, rfl⟩ := h; exact Nat.le_of_ble_eq_true rfl) ?_
  rintro _ _ ⟨rfl, rfl⟩
  refine ev_eq (lv' := [(0, .ref 0), (1, .int (zI (z1)))]) (st' := [.int (-2)]) (w' := compW T S P U O B Q C R tl ((up rf 2 (rf 2 + 1)))) rfl rfl (same_xp (compW T S P U O B Q C R tl rf) (compW T S P U O B Q C R tl ((up rf 2 (rf 2 + 1)))) rfl) ?_
  exact ev_iret dX6_judge_13 rfl (Nat.le_refl 49) (Nat.le_refl _) (Nat.le_refl _) ⟨rfl, _, _, _, _, _, _, rfl, hQ, rfl, rfl⟩
theorem bX6_judge_14_15 {l : Launch} {E : XE} : Snd l E mX6_judge 14 15 (xs [x_aload 0]) := Snd.cons (snd_aload_n (i := 0) dX6_judge_14 rfl) Snd.nil
theorem bX6_judge_18_20 {l : Launch} {E : XE} : Snd l E mX6_judge 18 20 (xs [x_aload 0, x_iload 1]) := Snd.cons (snd_aload_n (i := 0) dX6_judge_18 rfl) (Snd.cons (snd_iload_n (i := 1) dX6_judge_19 rfl) Snd.nil)
theorem bX6_judge_23_30 {l : Launch} {E : XE} : Snd l E mX6_judge 23 30 (xs [x_istore 2, x_aload 0, x_push (.int (nI 0)), x_puti 7 10, x_iload 2]) := Snd.cons (snd_istore_n (i := 2) dX6_judge_23 rfl (by decide)) (Snd.cons (snd_aload_n (i := 0) dX6_judge_24 rfl) (Snd.cons (snd_iconst (v := nI 0) dX6_judge_25 (by decide)) (Snd.cons (snd_puti (ci := 7) (k := 10) dX6_judge_26 rfl inX6 tyX6_ok nmX6 (by decide) tw_217 rfl rfl) (Snd.cons (snd_iload_n (i := 2) dX6_judge_29 rfl) Snd.nil))))
set_option maxHeartbeats 4000000 in
set_option maxRecDepth 100000 in
theorem p_judge_w0 {l : Launch} {E : XE} (T : TopN) (S P U : SaleN) (O : OutN) (B : BillN) (Q : SeaN) (C : ScrN) (R : PrtN) (tl rf : Nat → Nat) (n : Nat) (hS : SaleOK S) (hQ : Q.fd < 2147483648) (hn : LiftsTo S n) (hT : T.tc ≤ 5) (htl : ∀ k, k < T.tc → tl k ≤ 99) : MetE l E mX6_judge (6) 0 0 [.ref 0, .int (nI (0))] (compW T S P U O B Q C R tl rf) (CP ((0, T.hp) : TopN) S P (C.lt) (C.sz) tl rf (some (.int (zI (fwZ tl (wonZ S) T.tc 0))))) := by
  refine MetE.of (by decide +kernel) (Nat.le_of_ble_eq_true rfl) ?_
  have hca := hS.1
  have hpw := pow_ca hS
  have hac := ac_lt hS
  
  refine ev_eq (lv' := [(0, .ref 0), (1, .int (nI (0)))]) (st' := []) (w' := compW T S P U O B Q C R tl rf) rfl rfl rfl ?_
  refine ev_b bX6_judge_0_1 (lv' := [(0, .ref 0), (1, .int (nI (0)))]) (st' := [.int (nI (0))]) (w2 := compW T S P U O B Q C R tl rf) rfl ?_
  refine ev_callS (Yc := mX6_isHow) [] dX6_judge_1 tw_711 kX6_isHow m_X6_isHow_0 rfl (st := []) rfl (by decide) rfl (by decide) (Nat.le_of_ble_eq_true rfl) (Nat.le_refl _) (Nat.le_refl _) (fun r w' h => by obtain ⟨-, rfl⟩ := h; exact Nat.le_of_ble_eq_true rfl) ?_
  rintro _ _ ⟨rfl, rfl⟩
  refine ev_eq (lv' := [(0, .ref 0), (1, .int (nI (0)))]) (st' := [.int (nI (1))]) (w' := compW T S P U O B Q C R tl rf) rfl rfl rfl ?_
  refine ev_if_ne_n (tgt := 14) (by decide) dX6_judge_4 (by decide) (fun h4 => ?_) (fun h4 => (by exfalso; omega))
  refine ev_b bX6_judge_14_15 (lv' := [(0, .ref 0), (1, .int (nI (0)))]) (st' := [.ref 0]) (w2 := compW T S P U O B Q C R tl rf) rfl ?_
  refine ev_callV (Yc := mX6_chargeAndLift) (rng 0 49) dX6_judge_15 tw_714 kX6_chargeAndLift (m_X6_chargeAndLift T S P U O B Q C R tl rf n hS hn) rfl (st := []) rfl rfl rfl (by decide) (same_hw (compW T S P U O B Q C R tl rf)) (by decide) (Nat.le_of_ble_eq_true rfl) (Nat.le_refl _) (Nat.le_refl _) (fun r w' h => by obtain ⟨-, O', rfl, -⟩ := h; exact Nat.le_refl 49) ?_
  rintro _ _ ⟨rfl, O1, rfl, hK1⟩
  refine ev_eq (lv' := [(0, .ref 0), (1, .int (nI (0)))]) (st' := []) (w' := compW T S P U O1 ((lfB S (itS S n) n)) Q C R tl rf) rfl rfl (same_xp (compW T S P U O B Q C R tl rf) (compW T S P U O1 ((lfB S (itS S n) n)) Q C R tl rf) rfl) ?_
  refine ev_b bX6_judge_18_20 (lv' := [(0, .ref 0), (1, .int (nI (0)))]) (st' := [.int (nI (0)), .ref 0]) (w2 := compW T S P U O1 ((lfB S (itS S n) n)) Q C R tl rf) rfl ?_
  refine ev_callV (Yc := mX6_firstWrongTold) (rng 0 49) dX6_judge_20 tw_854 kX6_firstWrongTold (m_X6_firstWrongTold_0 T S P U O1 ((lfB S (itS S n) n)) Q C R tl rf (wonZ_b hS) hT htl) rfl (st := []) rfl rfl rfl (by decide) (same_hw (compW T S P U O1 ((lfB S (itS S n) n)) Q C R tl rf)) (by decide) (Nat.le_of_ble_eq_true rfl) (Nat.le_refl _) (Nat.le_refl _) (fun r w' h => by obtain ⟨-, rfl⟩ := h; exact Nat.le_of_ble_eq_true rfl) ?_
  rintro _ _ ⟨rfl, rfl⟩
  refine ev_eq (lv' := [(0, .ref 0), (1, .int (nI (0)))]) (st' := [.int (zI (fwZ tl (BillN.wo (lfB S (itS S n) n)) T.tc 0))]) (w' := compW T S P U O1 ((lfB S (itS S n) n)) Q C R tl rf) rfl rfl (same_xp (compW T S P U O1 ((lfB S (itS S n) n)) Q C R tl rf) (compW T S P U O1 ((lfB S (itS S n) n)) Q C R tl rf) rfl) ?_
  refine ev_top (y := (zI (fwZ tl (wonZ S) T.tc 0))) (congrArg zI (show fwZ tl (BillN.wo (lfB S (itS S n) n)) T.tc 0 = fwZ tl (wonZ S) T.tc 0 from by rfl)) ?_
  refine ev_b bX6_judge_23_30 (lv' := [(2, .int (zI (fwZ tl (wonZ S) T.tc 0))), (0, .ref 0), (1, .int (nI (0)))]) (st' := [.int (zI (fwZ tl (wonZ S) T.tc 0))]) (w2 := compW ((0, T.hp) : TopN) S P U O1 ((lfB S (itS S n) n)) Q C R tl rf) rfl ?_
  exact ev_iret dX6_judge_30 rfl (Nat.le_refl 49) (Nat.le_refl _) (Nat.le_refl _) ⟨rfl, _, _, _, _, _, _, rfl, hQ, rfl, rfl⟩
set_option maxHeartbeats 4000000 in
set_option maxRecDepth 100000 in
theorem p_judge_w1 {l : Launch} {E : XE} (T : TopN) (S P U : SaleN) (O : OutN) (B : BillN) (Q : SeaN) (C : ScrN) (R : PrtN) (tl rf : Nat → Nat) (n : Nat) (hS : SaleOK S) (hQ : Q.fd < 2147483648) (hn : LiftsTo S n) (hT : T.tc ≤ 5) (htl : ∀ k, k < T.tc → tl k ≤ 99) : MetE l E mX6_judge (6) 0 0 [.ref 0, .int (nI (1))] (compW T S P U O B Q C R tl rf) (CP ((0, T.hp) : TopN) S P (C.lt) (C.sz) tl rf (some (.int (zI (fwZ tl (paidZ S) T.tc 0))))) := by
  refine MetE.of (by decide +kernel) (Nat.le_of_ble_eq_true rfl) ?_
  have hca := hS.1
  have hpw := pow_ca hS
  have hac := ac_lt hS
  
  refine ev_eq (lv' := [(0, .ref 0), (1, .int (nI (1)))]) (st' := []) (w' := compW T S P U O B Q C R tl rf) rfl rfl rfl ?_
  refine ev_b bX6_judge_0_1 (lv' := [(0, .ref 0), (1, .int (nI (1)))]) (st' := [.int (nI (1))]) (w2 := compW T S P U O B Q C R tl rf) rfl ?_
  refine ev_callS (Yc := mX6_isHow) [] dX6_judge_1 tw_711 kX6_isHow m_X6_isHow_1 rfl (st := []) rfl (by decide) rfl (by decide) (Nat.le_of_ble_eq_true rfl) (Nat.le_refl _) (Nat.le_refl _) (fun r w' h => by obtain ⟨-, rfl⟩ := h; exact Nat.le_of_ble_eq_true rfl) ?_
  rintro _ _ ⟨rfl, rfl⟩
  refine ev_eq (lv' := [(0, .ref 0), (1, .int (nI (1)))]) (st' := [.int (nI (1))]) (w' := compW T S P U O B Q C R tl rf) rfl rfl rfl ?_
  refine ev_if_ne_n (tgt := 14) (by decide) dX6_judge_4 (by decide) (fun h4 => ?_) (fun h4 => (by exfalso; omega))
  refine ev_b bX6_judge_14_15 (lv' := [(0, .ref 0), (1, .int (nI (1)))]) (st' := [.ref 0]) (w2 := compW T S P U O B Q C R tl rf) rfl ?_
  refine ev_callV (Yc := mX6_chargeAndLift) (rng 0 49) dX6_judge_15 tw_714 kX6_chargeAndLift (m_X6_chargeAndLift T S P U O B Q C R tl rf n hS hn) rfl (st := []) rfl rfl rfl (by decide) (same_hw (compW T S P U O B Q C R tl rf)) (by decide) (Nat.le_of_ble_eq_true rfl) (Nat.le_refl _) (Nat.le_refl _) (fun r w' h => by obtain ⟨-, O', rfl, -⟩ := h; exact Nat.le_refl 49) ?_
  rintro _ _ ⟨rfl, O1, rfl, hK1⟩
  refine ev_eq (lv' := [(0, .ref 0), (1, .int (nI (1)))]) (st' := []) (w' := compW T S P U O1 ((lfB S (itS S n) n)) Q C R tl rf) rfl rfl (same_xp (compW T S P U O B Q C R tl rf) (compW T S P U O1 ((lfB S (itS S n) n)) Q C R tl rf) rfl) ?_
  refine ev_b bX6_judge_18_20 (lv' := [(0, .ref 0), (1, .int (nI (1)))]) (st' := [.int (nI (1)), .ref 0]) (w2 := compW T S P U O1 ((lfB S (itS S n) n)) Q C R tl rf) rfl ?_
  refine ev_callV (Yc := mX6_firstWrongTold) (rng 0 49) dX6_judge_20 tw_854 kX6_firstWrongTold (m_X6_firstWrongTold_1 T S P U O1 ((lfB S (itS S n) n)) Q C R tl rf (paid_b hS) hT htl) rfl (st := []) rfl rfl rfl (by decide) (same_hw (compW T S P U O1 ((lfB S (itS S n) n)) Q C R tl rf)) (by decide) (Nat.le_of_ble_eq_true rfl) (Nat.le_refl _) (Nat.le_refl _) (fun r w' h => by obtain ⟨-, rfl⟩ := h; exact Nat.le_of_ble_eq_true rfl) ?_
  rintro _ _ ⟨rfl, rfl⟩
  refine ev_eq (lv' := [(0, .ref 0), (1, .int (nI (1)))]) (st' := [.int (zI (fwZ tl (BillN.ha (lfB S (itS S n) n)) T.tc 0))]) (w' := compW T S P U O1 ((lfB S (itS S n) n)) Q C R tl rf) rfl rfl (same_xp (compW T S P U O1 ((lfB S (itS S n) n)) Q C R tl rf) (compW T S P U O1 ((lfB S (itS S n) n)) Q C R tl rf) rfl) ?_
  refine ev_top (y := (zI (fwZ tl (paidZ S) T.tc 0))) (congrArg zI (show fwZ tl (BillN.ha (lfB S (itS S n) n)) T.tc 0 = fwZ tl (paidZ S) T.tc 0 from by rfl)) ?_
  refine ev_b bX6_judge_23_30 (lv' := [(2, .int (zI (fwZ tl (paidZ S) T.tc 0))), (0, .ref 0), (1, .int (nI (1)))]) (st' := [.int (zI (fwZ tl (paidZ S) T.tc 0))]) (w2 := compW ((0, T.hp) : TopN) S P U O1 ((lfB S (itS S n) n)) Q C R tl rf) rfl ?_
  exact ev_iret dX6_judge_30 rfl (Nat.le_refl 49) (Nat.le_refl _) (Nat.le_refl _) ⟨rfl, _, _, _, _, _, _, rfl, hQ, rfl, rfl⟩
set_option maxHeartbeats 4000000 in
set_option maxRecDepth 100000 in
theorem p_judge_w2 {l : Launch} {E : XE} (T : TopN) (S P U : SaleN) (O : OutN) (B : BillN) (Q : SeaN) (C : ScrN) (R : PrtN) (tl rf : Nat → Nat) (n : Nat) (hS : SaleOK S) (hQ : Q.fd < 2147483648) (hn : LiftsTo S n) (hT : T.tc ≤ 5) (htl : ∀ k, k < T.tc → tl k ≤ 99) : MetE l E mX6_judge (6) 0 0 [.ref 0, .int (nI (2))] (compW T S P U O B Q C R tl rf) (CP ((0, T.hp) : TopN) S P (C.lt) (C.sz) tl rf (some (.int (zI (fwZ tl (itS S n) T.tc 0))))) := by
  refine MetE.of (by decide +kernel) (Nat.le_of_ble_eq_true rfl) ?_
  have hca := hS.1
  have hpw := pow_ca hS
  have hac := ac_lt hS
  
  refine ev_eq (lv' := [(0, .ref 0), (1, .int (nI (2)))]) (st' := []) (w' := compW T S P U O B Q C R tl rf) rfl rfl rfl ?_
  refine ev_b bX6_judge_0_1 (lv' := [(0, .ref 0), (1, .int (nI (2)))]) (st' := [.int (nI (2))]) (w2 := compW T S P U O B Q C R tl rf) rfl ?_
  refine ev_callS (Yc := mX6_isHow) [] dX6_judge_1 tw_711 kX6_isHow m_X6_isHow_2 rfl (st := []) rfl (by decide) rfl (by decide) (Nat.le_of_ble_eq_true rfl) (Nat.le_refl _) (Nat.le_refl _) (fun r w' h => by obtain ⟨-, rfl⟩ := h; exact Nat.le_of_ble_eq_true rfl) ?_
  rintro _ _ ⟨rfl, rfl⟩
  refine ev_eq (lv' := [(0, .ref 0), (1, .int (nI (2)))]) (st' := [.int (nI (1))]) (w' := compW T S P U O B Q C R tl rf) rfl rfl rfl ?_
  refine ev_if_ne_n (tgt := 14) (by decide) dX6_judge_4 (by decide) (fun h4 => ?_) (fun h4 => (by exfalso; omega))
  refine ev_b bX6_judge_14_15 (lv' := [(0, .ref 0), (1, .int (nI (2)))]) (st' := [.ref 0]) (w2 := compW T S P U O B Q C R tl rf) rfl ?_
  refine ev_callV (Yc := mX6_chargeAndLift) (rng 0 49) dX6_judge_15 tw_714 kX6_chargeAndLift (m_X6_chargeAndLift T S P U O B Q C R tl rf n hS hn) rfl (st := []) rfl rfl rfl (by decide) (same_hw (compW T S P U O B Q C R tl rf)) (by decide) (Nat.le_of_ble_eq_true rfl) (Nat.le_refl _) (Nat.le_refl _) (fun r w' h => by obtain ⟨-, O', rfl, -⟩ := h; exact Nat.le_refl 49) ?_
  rintro _ _ ⟨rfl, O1, rfl, hK1⟩
  refine ev_eq (lv' := [(0, .ref 0), (1, .int (nI (2)))]) (st' := []) (w' := compW T S P U O1 ((lfB S (itS S n) n)) Q C R tl rf) rfl rfl (same_xp (compW T S P U O B Q C R tl rf) (compW T S P U O1 ((lfB S (itS S n) n)) Q C R tl rf) rfl) ?_
  refine ev_b bX6_judge_18_20 (lv' := [(0, .ref 0), (1, .int (nI (2)))]) (st' := [.int (nI (2)), .ref 0]) (w2 := compW T S P U O1 ((lfB S (itS S n) n)) Q C R tl rf) rfl ?_
  refine ev_callV (Yc := mX6_firstWrongTold) (rng 0 49) dX6_judge_20 tw_854 kX6_firstWrongTold (m_X6_firstWrongTold_2 T S P U O1 ((lfB S (itS S n) n)) Q C R tl rf (it_b hS hn) hT htl) rfl (st := []) rfl rfl rfl (by decide) (same_hw (compW T S P U O1 ((lfB S (itS S n) n)) Q C R tl rf)) (by decide) (Nat.le_of_ble_eq_true rfl) (Nat.le_refl _) (Nat.le_refl _) (fun r w' h => by obtain ⟨-, rfl⟩ := h; exact Nat.le_of_ble_eq_true rfl) ?_
  rintro _ _ ⟨rfl, rfl⟩
  refine ev_eq (lv' := [(0, .ref 0), (1, .int (nI (2)))]) (st' := [.int (zI (fwZ tl (BillN.li (lfB S (itS S n) n)) T.tc 0))]) (w' := compW T S P U O1 ((lfB S (itS S n) n)) Q C R tl rf) rfl rfl (same_xp (compW T S P U O1 ((lfB S (itS S n) n)) Q C R tl rf) (compW T S P U O1 ((lfB S (itS S n) n)) Q C R tl rf) rfl) ?_
  refine ev_top (y := (zI (fwZ tl (itS S n) T.tc 0))) (congrArg zI (show fwZ tl (BillN.li (lfB S (itS S n) n)) T.tc 0 = fwZ tl (itS S n) T.tc 0 from by rfl)) ?_
  refine ev_b bX6_judge_23_30 (lv' := [(2, .int (zI (fwZ tl (itS S n) T.tc 0))), (0, .ref 0), (1, .int (nI (2)))]) (st' := [.int (zI (fwZ tl (itS S n) T.tc 0))]) (w2 := compW ((0, T.hp) : TopN) S P U O1 ((lfB S (itS S n) n)) Q C R tl rf) rfl ?_
  exact ev_iret dX6_judge_30 rfl (Nat.le_refl 49) (Nat.le_refl _) (Nat.le_refl _) ⟨rfl, _, _, _, _, _, _, rfl, hQ, rfl, rfl⟩
theorem bX6_envy_0_1 {l : Launch} {E : XE} : Snd l E mX6_envy 0 1 (xs [x_iload 1]) := Snd.cons (snd_iload_n (i := 1) dX6_envy_0 rfl) Snd.nil
theorem bX6_envy_19_21 {l : Launch} {E : XE} : Snd l E mX6_envy 19 21 (xs [x_aload 0, x_push (.int (-1))]) := Snd.cons (snd_aload_n (i := 0) dX6_envy_19 rfl) (Snd.cons (snd_iconst (v := -1) dX6_envy_20 (by decide)) Snd.nil)
set_option maxHeartbeats 4000000 in
set_option maxRecDepth 100000 in
theorem p_envy_1a {l : Launch} {E : XE} (T : TopN) (S P U : SaleN) (O : OutN) (B : BillN) (Q : SeaN) (C : ScrN) (R : PrtN) (tl rf : Nat → Nat) (z1 z2 : Int) (hS : SaleOK S) (hQ : Q.fd < 2147483648) (rz1 : -2147483648 ≤ z1 ∧ z1 < 2147483648) (rz2 : -2147483648 ≤ z2 ∧ z2 < 2147483648) (h : ¬ (0 ≤ z1 ∧ z1 < 5)) : MetE l E mX6_envy (1) 0 0 [.ref 0, .int (zI (z1)), .int (zI (z2))] (compW T S P U O B Q C R tl rf) (CP T S P (C.lt) (C.sz) tl (up rf 1 (rf 1 + 1)) (some (.int (-1)))) := by
  refine MetE.of (by decide +kernel) (Nat.le_of_ble_eq_true rfl) ?_
  have hca := hS.1
  have hpw := pow_ca hS
  have hac := ac_lt hS
  
  refine ev_eq (lv' := [(0, .ref 0), (1, .int (zI (z1))), (2, .int (zI (z2)))]) (st' := []) (w' := compW T S P U O B Q C R tl rf) rfl rfl rfl ?_
  refine ev_b bX6_envy_0_1 (lv' := [(0, .ref 0), (1, .int (zI (z1))), (2, .int (zI (z2)))]) (st' := [.int (zI (z1))]) (w2 := compW T S P U O B Q C R tl rf) rfl ?_
  refine ev_callS (Yc := mX6_isBidder) [] dX6_envy_1 tw_437 kX6_isBidder (m_X6_isBidder_z z1 rz1) rfl (st := []) rfl (by decide) rfl (by decide) (Nat.le_of_ble_eq_true rfl) (Nat.le_refl _) (Nat.le_refl _) (fun r w' h => by obtain ⟨-, rfl⟩ := h; exact Nat.le_of_ble_eq_true rfl) ?_
  rintro _ _ ⟨rfl, rfl⟩
  refine ev_eq (lv' := [(0, .ref 0), (1, .int (zI (z1))), (2, .int (zI (z2)))]) (st' := [.int (nI (b01 (0 ≤ z1 ∧ z1 < 5)))]) (w' := compW T S P U O B Q C R tl rf) rfl rfl rfl ?_
  refine ev_ifeq_b (tgt := 19) dX6_envy_4 (by decide) (fun h4 => ?_) (fun h4 => (by exfalso; omega))
  refine ev_b bX6_envy_19_21 (lv' := [(0, .ref 0), (1, .int (zI (z1))), (2, .int (zI (z2)))]) (st' := [.int (-1), .ref 0]) (w2 := compW T S P U O B Q C R tl rf) rfl ?_
  refine ev_callV (Yc := mX6_refuse) (rng 0 49) dX6_envy_21 tw_248 kX6_refuse (m_X6_refuse_1 T S P U O B Q C R tl rf) rfl (st := []) rfl rfl rfl (by decide) (same_hw (compW T S P U O B Q C R tl rf)) (by decide) (Nat.le_of_ble_eq_true rfl) (Nat.le_refl _) (Nat.le_refl _) (fun r w' h => by obtain ⟨-, rfl⟩ := h; exact Nat.le_of_ble_eq_true rfl) ?_
  rintro _ _ ⟨rfl, rfl⟩
  refine ev_eq (lv' := [(0, .ref 0), (1, .int (zI (z1))), (2, .int (zI (z2)))]) (st' := [.int (-1)]) (w' := compW T S P U O B Q C R tl ((up rf 1 (rf 1 + 1)))) rfl rfl (same_xp (compW T S P U O B Q C R tl rf) (compW T S P U O B Q C R tl ((up rf 1 (rf 1 + 1)))) rfl) ?_
  exact ev_iret dX6_envy_24 rfl (Nat.le_refl 49) (Nat.le_refl _) (Nat.le_refl _) ⟨rfl, _, _, _, _, _, _, rfl, hQ, rfl, rfl⟩
theorem bX6_envy_7_8 {l : Launch} {E : XE} : Snd l E mX6_envy 7 8 (xs [x_iload 2]) := Snd.cons (snd_iload_n (i := 2) dX6_envy_7 rfl) Snd.nil
set_option maxHeartbeats 4000000 in
set_option maxRecDepth 100000 in
theorem p_envy_1b {l : Launch} {E : XE} (T : TopN) (S P U : SaleN) (O : OutN) (B : BillN) (Q : SeaN) (C : ScrN) (R : PrtN) (tl rf : Nat → Nat) (z1 z2 : Int) (hS : SaleOK S) (hQ : Q.fd < 2147483648) (rz1 : -2147483648 ≤ z1 ∧ z1 < 2147483648) (rz2 : -2147483648 ≤ z2 ∧ z2 < 2147483648) (h : 0 ≤ z1 ∧ z1 < 5) (h2 : ¬ (0 ≤ z2 ∧ z2 < 5)) : MetE l E mX6_envy (1) 0 0 [.ref 0, .int (zI (z1)), .int (zI (z2))] (compW T S P U O B Q C R tl rf) (CP T S P (C.lt) (C.sz) tl (up rf 1 (rf 1 + 1)) (some (.int (-1)))) := by
  refine MetE.of (by decide +kernel) (Nat.le_of_ble_eq_true rfl) ?_
  have hca := hS.1
  have hpw := pow_ca hS
  have hac := ac_lt hS
  
  refine ev_eq (lv' := [(0, .ref 0), (1, .int (zI (z1))), (2, .int (zI (z2)))]) (st' := []) (w' := compW T S P U O B Q C R tl rf) rfl rfl rfl ?_
  refine ev_b bX6_envy_0_1 (lv' := [(0, .ref 0), (1, .int (zI (z1))), (2, .int (zI (z2)))]) (st' := [.int (zI (z1))]) (w2 := compW T S P U O B Q C R tl rf) rfl ?_
  refine ev_callS (Yc := mX6_isBidder) [] dX6_envy_1 tw_437 kX6_isBidder (m_X6_isBidder_z z1 rz1) rfl (st := []) rfl (by decide) rfl (by decide) (Nat.le_of_ble_eq_true rfl) (Nat.le_refl _) (Nat.le_refl _) (fun r w' h => by obtain ⟨-, rfl⟩ := h; exact Nat.le_of_ble_eq_true rfl) ?_
  rintro _ _ ⟨rfl, rfl⟩
  refine ev_eq (lv' := [(0, .ref 0), (1, .int (zI (z1))), (2, .int (zI (z2)))]) (st' := [.int (nI (b01 (0 ≤ z1 ∧ z1 < 5)))]) (w' := compW T S P U O B Q C R tl rf) rfl rfl rfl ?_
  refine ev_ifeq_b (tgt := 19) dX6_envy_4 (by decide) (fun h4 => (by exfalso; omega)) (fun h4 => ?_)
  refine ev_b bX6_envy_7_8 (lv' := [(0, .ref 0), (1, .int (zI (z1))), (2, .int (zI (z2)))]) (st' := [.int (zI (z2))]) (w2 := compW T S P U O B Q C R tl rf) rfl ?_
  refine ev_callS (Yc := mX6_isBidder) [] dX6_envy_8 tw_437 kX6_isBidder (m_X6_isBidder_z z2 rz2) rfl (st := []) rfl (by decide) rfl (by decide) (Nat.le_of_ble_eq_true rfl) (Nat.le_refl _) (Nat.le_refl _) (fun r w' h => by obtain ⟨-, rfl⟩ := h; exact Nat.le_of_ble_eq_true rfl) ?_
  rintro _ _ ⟨rfl, rfl⟩
  refine ev_eq (lv' := [(0, .ref 0), (1, .int (zI (z1))), (2, .int (zI (z2)))]) (st' := [.int (nI (b01 (0 ≤ z2 ∧ z2 < 5)))]) (w' := compW T S P U O B Q C R tl rf) rfl rfl rfl ?_
  refine ev_ifeq_b (tgt := 19) dX6_envy_11 (by decide) (fun h11 => ?_) (fun h11 => (by exfalso; omega))
  refine ev_b bX6_envy_19_21 (lv' := [(0, .ref 0), (1, .int (zI (z1))), (2, .int (zI (z2)))]) (st' := [.int (-1), .ref 0]) (w2 := compW T S P U O B Q C R tl rf) rfl ?_
  refine ev_callV (Yc := mX6_refuse) (rng 0 49) dX6_envy_21 tw_248 kX6_refuse (m_X6_refuse_1 T S P U O B Q C R tl rf) rfl (st := []) rfl rfl rfl (by decide) (same_hw (compW T S P U O B Q C R tl rf)) (by decide) (Nat.le_of_ble_eq_true rfl) (Nat.le_refl _) (Nat.le_refl _) (fun r w' h => by obtain ⟨-, rfl⟩ := h; exact Nat.le_of_ble_eq_true rfl) ?_
  rintro _ _ ⟨rfl, rfl⟩
  refine ev_eq (lv' := [(0, .ref 0), (1, .int (zI (z1))), (2, .int (zI (z2)))]) (st' := [.int (-1)]) (w' := compW T S P U O B Q C R tl ((up rf 1 (rf 1 + 1)))) rfl rfl (same_xp (compW T S P U O B Q C R tl rf) (compW T S P U O B Q C R tl ((up rf 1 (rf 1 + 1)))) rfl) ?_
  exact ev_iret dX6_envy_24 rfl (Nat.le_refl 49) (Nat.le_refl _) (Nat.le_refl _) ⟨rfl, _, _, _, _, _, _, rfl, hQ, rfl, rfl⟩
theorem bX6_envy_14_16 {l : Launch} {E : XE} : Snd l E mX6_envy 14 16 (xs [x_iload 1, x_iload 2]) := Snd.cons (snd_iload_n (i := 1) dX6_envy_14 rfl) (Snd.cons (snd_iload_n (i := 2) dX6_envy_15 rfl) Snd.nil)
set_option maxHeartbeats 4000000 in
set_option maxRecDepth 100000 in
theorem p_envy_1c {l : Launch} {E : XE} (T : TopN) (S P U : SaleN) (O : OutN) (B : BillN) (Q : SeaN) (C : ScrN) (R : PrtN) (tl rf : Nat → Nat) (b : Nat) (hS : SaleOK S) (hQ : Q.fd < 2147483648) (hb : b < 5) : MetE l E mX6_envy (1) 0 0 [.ref 0, .int (nI (b)), .int (nI (b))] (compW T S P U O B Q C R tl rf) (CP T S P (C.lt) (C.sz) tl (up rf 1 (rf 1 + 1)) (some (.int (-1)))) := by
  refine MetE.of (by decide +kernel) (Nat.le_of_ble_eq_true rfl) ?_
  have hca := hS.1
  have hpw := pow_ca hS
  have hac := ac_lt hS
  
  refine ev_eq (lv' := [(0, .ref 0), (1, .int (nI (b))), (2, .int (nI (b)))]) (st' := []) (w' := compW T S P U O B Q C R tl rf) rfl rfl rfl ?_
  refine ev_b bX6_envy_0_1 (lv' := [(0, .ref 0), (1, .int (nI (b))), (2, .int (nI (b)))]) (st' := [.int (nI (b))]) (w2 := compW T S P U O B Q C R tl rf) rfl ?_
  refine ev_callS (Yc := mX6_isBidder) [] dX6_envy_1 tw_437 kX6_isBidder (m_X6_isBidder b (by omega)) rfl (st := []) rfl (by decide) rfl (by decide) (Nat.le_of_ble_eq_true rfl) (Nat.le_refl _) (Nat.le_refl _) (fun r w' h => by obtain ⟨-, rfl⟩ := h; exact Nat.le_of_ble_eq_true rfl) ?_
  rintro _ _ ⟨rfl, rfl⟩
  refine ev_eq (lv' := [(0, .ref 0), (1, .int (nI (b))), (2, .int (nI (b)))]) (st' := [.int (nI (b01 (b < 5)))]) (w' := compW T S P U O B Q C R tl rf) rfl rfl rfl ?_
  refine ev_ifeq_b (tgt := 19) dX6_envy_4 (by decide) (fun h4 => (by exfalso; omega)) (fun h4 => ?_)
  refine ev_b bX6_envy_7_8 (lv' := [(0, .ref 0), (1, .int (nI (b))), (2, .int (nI (b)))]) (st' := [.int (nI (b))]) (w2 := compW T S P U O B Q C R tl rf) rfl ?_
  refine ev_callS (Yc := mX6_isBidder) [] dX6_envy_8 tw_437 kX6_isBidder (m_X6_isBidder b (by omega)) rfl (st := []) rfl (by decide) rfl (by decide) (Nat.le_of_ble_eq_true rfl) (Nat.le_refl _) (Nat.le_refl _) (fun r w' h => by obtain ⟨-, rfl⟩ := h; exact Nat.le_of_ble_eq_true rfl) ?_
  rintro _ _ ⟨rfl, rfl⟩
  refine ev_eq (lv' := [(0, .ref 0), (1, .int (nI (b))), (2, .int (nI (b)))]) (st' := [.int (nI (b01 (b < 5)))]) (w' := compW T S P U O B Q C R tl rf) rfl rfl rfl ?_
  refine ev_ifeq_b (tgt := 19) dX6_envy_11 (by decide) (fun h11 => (by exfalso; omega)) (fun h11 => ?_)
  refine ev_b bX6_envy_14_16 (lv' := [(0, .ref 0), (1, .int (nI (b))), (2, .int (nI (b)))]) (st' := [.int (nI (b)), .int (nI (b))]) (w2 := compW T S P U O B Q C R tl rf) rfl ?_
  refine ev_icmp_ne_n (tgt := 25) (by omega) (by omega) dX6_envy_16 (by decide) (fun h16 => (by exfalso; omega)) (fun h16 => ?_)
  refine ev_b bX6_envy_19_21 (lv' := [(0, .ref 0), (1, .int (nI (b))), (2, .int (nI (b)))]) (st' := [.int (-1), .ref 0]) (w2 := compW T S P U O B Q C R tl rf) rfl ?_
  refine ev_callV (Yc := mX6_refuse) (rng 0 49) dX6_envy_21 tw_248 kX6_refuse (m_X6_refuse_1 T S P U O B Q C R tl rf) rfl (st := []) rfl rfl rfl (by decide) (same_hw (compW T S P U O B Q C R tl rf)) (by decide) (Nat.le_of_ble_eq_true rfl) (Nat.le_refl _) (Nat.le_refl _) (fun r w' h => by obtain ⟨-, rfl⟩ := h; exact Nat.le_of_ble_eq_true rfl) ?_
  rintro _ _ ⟨rfl, rfl⟩
  refine ev_eq (lv' := [(0, .ref 0), (1, .int (nI (b))), (2, .int (nI (b)))]) (st' := [.int (-1)]) (w' := compW T S P U O B Q C R tl ((up rf 1 (rf 1 + 1)))) rfl rfl (same_xp (compW T S P U O B Q C R tl rf) (compW T S P U O B Q C R tl ((up rf 1 (rf 1 + 1)))) rfl) ?_
  exact ev_iret dX6_envy_24 rfl (Nat.le_refl 49) (Nat.le_refl _) (Nat.le_refl _) ⟨rfl, _, _, _, _, _, _, rfl, hQ, rfl, rfl⟩
theorem bX6_envy_25_30 {l : Launch} {E : XE} : Snd l E mX6_envy 25 30 (xs [x_aload 0, x_aload 0, x_get 7 0]) := Snd.cons (snd_aload_n (i := 0) dX6_envy_25 rfl) (Snd.cons (snd_aload_n (i := 0) dX6_envy_26 rfl) (Snd.cons (snd_get (ci := 7) (k := 0) dX6_envy_27 rfl inX6 (by decide) tw_207) Snd.nil))
theorem bX6_envy_33_50 {l : Launch} {E : XE} : Snd l E mX6_envy 33 50 (xs [x_aload 0, x_get 7 0, x_aload 0, x_get 7 4, x_get 1 4, x_aload 0, x_get 7 0, x_push (.int (nI 1)), x_iload 2]) := Snd.cons (snd_aload_n (i := 0) dX6_envy_33 rfl) (Snd.cons (snd_get (ci := 7) (k := 0) dX6_envy_34 rfl inX6 (by decide) tw_207) (Snd.cons (snd_aload_n (i := 0) dX6_envy_37 rfl) (Snd.cons (snd_get (ci := 7) (k := 4) dX6_envy_38 rfl inX6 (by decide) tw_211) (Snd.cons (snd_getN (ci := 1) (k := 4) dX6_envy_41 rfl inX0 (by decide) tn_109) (Snd.cons (snd_aload_n (i := 0) dX6_envy_44 rfl) (Snd.cons (snd_get (ci := 7) (k := 0) dX6_envy_45 rfl inX6 (by decide) tw_207) (Snd.cons (snd_iconst (v := nI 1) dX6_envy_48 (by decide)) (Snd.cons (snd_iload_n (i := 2) dX6_envy_49 rfl) Snd.nil))))))))
theorem bX6_envy_58_65 {l : Launch} {E : XE} : Snd l E mX6_envy 58 65 (xs [x_istore 3, x_aload 0, x_get 7 0, x_push (.int (nI 1)), x_iload 1]) := Snd.cons (snd_istore_n (i := 3) dX6_envy_58 rfl (by decide)) (Snd.cons (snd_aload_n (i := 0) dX6_envy_59 rfl) (Snd.cons (snd_get (ci := 7) (k := 0) dX6_envy_60 rfl inX6 (by decide) tw_207) (Snd.cons (snd_iconst (v := nI 1) dX6_envy_63 (by decide)) (Snd.cons (snd_iload_n (i := 1) dX6_envy_64 rfl) Snd.nil))))
theorem bX6_envy_69_78 {l : Launch} {E : XE} : Snd l E mX6_envy 69 78 (xs [x_aload 0, x_get 7 0, x_push (.int (nI 63)), x_iload 3, x_push (.int (-1)), x_i2 (fun x y => x ^^^ y)]) := Snd.cons (snd_aload_n (i := 0) dX6_envy_69 rfl) (Snd.cons (snd_get (ci := 7) (k := 0) dX6_envy_70 rfl inX6 (by decide) tw_207) (Snd.cons (snd_bipush (v := nI 63) dX6_envy_73 (by decide)) (Snd.cons (snd_iload_n (i := 3) dX6_envy_75 rfl) (Snd.cons (snd_iconst (v := -1) dX6_envy_76 (by decide)) (Snd.cons (snd_ixor dX6_envy_77) Snd.nil)))))
theorem bX6_envy_82_84 {l : Launch} {E : XE} : Snd l E mX6_envy 82 84 (xs [x_push (.int (-1)), x_i2 (fun x y => x ^^^ y)]) := Snd.cons (snd_iconst (v := -1) dX6_envy_82 (by decide)) (Snd.cons (snd_ixor dX6_envy_83) Snd.nil)
theorem bX6_envy_85_97 {l : Launch} {E : XE} : Snd l E mX6_envy 85 97 (xs [x_istore 4, x_aload 0, x_get 7 3, x_aload 0, x_get 7 0, x_iload 4]) := Snd.cons (snd_istore dX6_envy_85 (by decide)) (Snd.cons (snd_aload_n (i := 0) dX6_envy_87 rfl) (Snd.cons (snd_get (ci := 7) (k := 3) dX6_envy_88 rfl inX6 (by decide) tw_210) (Snd.cons (snd_aload_n (i := 0) dX6_envy_91 rfl) (Snd.cons (snd_get (ci := 7) (k := 0) dX6_envy_92 rfl inX6 (by decide) tw_207) (Snd.cons (snd_iload dX6_envy_95) Snd.nil)))))
theorem bX6_envy_100_108 {l : Launch} {E : XE} : Snd l E mX6_envy 100 108 (xs [x_istore 5, x_aload 0, x_get 7 4, x_push (.int (nI 0)), x_iload 1]) := Snd.cons (snd_istore dX6_envy_100 (by decide)) (Snd.cons (snd_aload_n (i := 0) dX6_envy_102 rfl) (Snd.cons (snd_get (ci := 7) (k := 4) dX6_envy_103 rfl inX6 (by decide) tw_211) (Snd.cons (snd_iconst (v := nI 0) dX6_envy_106 (by decide)) (Snd.cons (snd_iload_n (i := 1) dX6_envy_107 rfl) Snd.nil))))
theorem bX6_envy_111_117 {l : Launch} {E : XE} : Snd l E mX6_envy 111 117 (xs [x_aload 0, x_get 7 4, x_push (.int (nI 1)), x_iload 1]) := Snd.cons (snd_aload_n (i := 0) dX6_envy_111 rfl) (Snd.cons (snd_get (ci := 7) (k := 4) dX6_envy_112 rfl inX6 (by decide) tw_211) (Snd.cons (snd_iconst (v := nI 1) dX6_envy_115 (by decide)) (Snd.cons (snd_iload_n (i := 1) dX6_envy_116 rfl) Snd.nil)))
theorem bX6_envy_121_132 {l : Launch} {E : XE} : Snd l E mX6_envy 121 132 (xs [x_istore 6, x_push (.int (nI 0)), x_iload 5, x_aload 0, x_get 7 4, x_push (.int (nI 1)), x_iload 2]) := Snd.cons (snd_istore dX6_envy_121 (by decide)) (Snd.cons (snd_iconst (v := nI 0) dX6_envy_123 (by decide)) (Snd.cons (snd_iload dX6_envy_124) (Snd.cons (snd_aload_n (i := 0) dX6_envy_126 rfl) (Snd.cons (snd_get (ci := 7) (k := 4) dX6_envy_127 rfl inX6 (by decide) tw_211) (Snd.cons (snd_iconst (v := nI 1) dX6_envy_130 (by decide)) (Snd.cons (snd_iload_n (i := 2) dX6_envy_131 rfl) Snd.nil))))))
theorem bX6_envy_136_138 {l : Launch} {E : XE} : Snd l E mX6_envy 136 138 (xs [x_iload 6]) := Snd.cons (snd_iload dX6_envy_136) Snd.nil
set_option maxHeartbeats 4000000 in
set_option maxRecDepth 100000 in
theorem p_envy_ok {l : Launch} {E : XE} (T : TopN) (S P U : SaleN) (O : OutN) (B : BillN) (Q : SeaN) (C : ScrN) (R : PrtN) (tl rf : Nat → Nat) (b c : Nat) (hS : SaleOK S) (hQ : Q.fd < 2147483648) (hb : b < 5) (hc : c < 5) (hne : b ≠ c) : MetE l E mX6_envy (5) 0 0 [.ref 0, .int (nI (b)), .int (nI (c))] (compW T S P U O B Q C R tl rf) (CP T S P (C.lt) (C.sz) tl rf (some (.int (zI (max 0 ((((mostLs (keysOf S (packsN S S.ca)) S.pr S.ca (andn (bgTo S.ow (1 <<< b) 5) (hdTo S.st (andn 63 (itTo S.st (winB S 1023 &&& bgTo S.ow (1 <<< c) 5) S.ca)) S.ca &&& S.ac)) : Nat) : Int) - paidZ S c) - (wonZ S b - paidZ S b))))))) := by
  refine MetE.of (by decide +kernel) (Nat.le_of_ble_eq_true rfl) ?_
  have hca := hS.1
  have hpw := pow_ca hS
  have hac := ac_lt hS
  have h1b : 1 <<< b < 2147483648 := Nat.lt_of_lt_of_le (shl_lt (show b < 5 from hb)) (by decide)
  have h1c : 1 <<< c < 2147483648 := Nat.lt_of_lt_of_le (shl_lt (show c < 5 from hc)) (by decide)
  have hwb := winB_lt hS 1023
  have hwnb := wonZ_bnd hS b
  have hwnc := wonZ_bnd hS c
  have hpb := paid_bnd hS hb
  have hpc := paid_bnd hS hc
  refine ev_eq (lv' := [(0, .ref 0), (1, .int (nI (b))), (2, .int (nI (c)))]) (st' := []) (w' := compW T S P U O B Q C R tl rf) rfl rfl rfl ?_
  refine ev_b bX6_envy_0_1 (lv' := [(0, .ref 0), (1, .int (nI (b))), (2, .int (nI (c)))]) (st' := [.int (nI (b))]) (w2 := compW T S P U O B Q C R tl rf) rfl ?_
  refine ev_callS (Yc := mX6_isBidder) [] dX6_envy_1 tw_437 kX6_isBidder (m_X6_isBidder b (by omega)) rfl (st := []) rfl (by decide) rfl (by decide) (Nat.le_of_ble_eq_true rfl) (Nat.le_refl _) (Nat.le_refl _) (fun r w' h => by obtain ⟨-, rfl⟩ := h; exact Nat.le_of_ble_eq_true rfl) ?_
  rintro _ _ ⟨rfl, rfl⟩
  refine ev_eq (lv' := [(0, .ref 0), (1, .int (nI (b))), (2, .int (nI (c)))]) (st' := [.int (nI (b01 (b < 5)))]) (w' := compW T S P U O B Q C R tl rf) rfl rfl rfl ?_
  refine ev_ifeq_b (tgt := 19) dX6_envy_4 (by decide) (fun h4 => (by exfalso; omega)) (fun h4 => ?_)
  refine ev_b bX6_envy_7_8 (lv' := [(0, .ref 0), (1, .int (nI (b))), (2, .int (nI (c)))]) (st' := [.int (nI (c))]) (w2 := compW T S P U O B Q C R tl rf) rfl ?_
  refine ev_callS (Yc := mX6_isBidder) [] dX6_envy_8 tw_437 kX6_isBidder (m_X6_isBidder c (by omega)) rfl (st := []) rfl (by decide) rfl (by decide) (Nat.le_of_ble_eq_true rfl) (Nat.le_refl _) (Nat.le_refl _) (fun r w' h => by obtain ⟨-, rfl⟩ := h; exact Nat.le_of_ble_eq_true rfl) ?_
  rintro _ _ ⟨rfl, rfl⟩
  refine ev_eq (lv' := [(0, .ref 0), (1, .int (nI (b))), (2, .int (nI (c)))]) (st' := [.int (nI (b01 (c < 5)))]) (w' := compW T S P U O B Q C R tl rf) rfl rfl rfl ?_
  refine ev_ifeq_b (tgt := 19) dX6_envy_11 (by decide) (fun h11 => (by exfalso; omega)) (fun h11 => ?_)
  refine ev_b bX6_envy_14_16 (lv' := [(0, .ref 0), (1, .int (nI (b))), (2, .int (nI (c)))]) (st' := [.int (nI (c)), .int (nI (b))]) (w2 := compW T S P U O B Q C R tl rf) rfl ?_
  refine ev_icmp_ne_n (tgt := 25) (by omega) (by omega) dX6_envy_16 (by decide) (fun h16 => ?_) (fun h16 => (by exfalso; omega))
  refine ev_b bX6_envy_25_30 (lv' := [(0, .ref 0), (1, .int (nI (b))), (2, .int (nI (c)))]) (st' := [.ref 1, .ref 0]) (w2 := compW T S P U O B Q C R tl rf) rfl ?_
  refine ev_callV (Yc := mX6_charge) (rng 0 49) dX6_envy_30 tw_588 kX6_charge (m_X6_charge_S T S P U O B Q C R tl rf hS) rfl (st := []) rfl rfl rfl (by decide) (same_hw (compW T S P U O B Q C R tl rf)) (by decide) (Nat.le_of_ble_eq_true rfl) (Nat.le_refl _) (Nat.le_refl _) (fun r w' h => by obtain ⟨-, O', rfl, -⟩ := h; exact Nat.le_refl 49) ?_
  rintro _ _ ⟨rfl, O1, rfl, hK1⟩
  refine ev_eq (lv' := [(0, .ref 0), (1, .int (nI (b))), (2, .int (nI (c)))]) (st' := []) (w' := compW T S P U O1 ((chB S B.li B.gw B.un B.lc)) Q C R tl rf) rfl rfl (same_xp (compW T S P U O B Q C R tl rf) (compW T S P U O1 ((chB S B.li B.gw B.un B.lc)) Q C R tl rf) rfl) ?_
  refine ev_b bX6_envy_33_50 (lv' := [(0, .ref 0), (1, .int (nI (b))), (2, .int (nI (c)))]) (st' := [.int (nI (c)), .int (nI (1)), .ref 1, .int (nI (BillN.wi ((chB S B.li B.gw B.un B.lc)))), .ref 1]) (w2 := compW T S P U O1 ((chB S B.li B.gw B.un B.lc)) Q C R tl rf) rfl ?_
  refine ev_ishl_n (by omega) dX6_envy_50 ?_
  refine ev_callVN (Yc := mX3_bidsOfGroup) [1, 2, 3, 4, 5, 6, 7, 8] dX6_envy_51 tn_584 kX3_bidsOfGroup (m_X3_bidsOfGroup S (1 <<< c) h1c) rfl (st := [.int (nI (BillN.wi ((chB S B.li B.gw B.un B.lc)))), .ref 1]) rfl rfl rfl (by decide) hw_comp__1 (by decide) (Nat.le_of_ble_eq_true rfl) (Nat.le_refl _) (Nat.le_refl _) (fun r w' h => by obtain ⟨-, rfl⟩ := h; exact Nat.le_of_ble_eq_true rfl) ?_
  rintro _ _ ⟨rfl, rfl⟩
  refine ev_eq (lv' := [(0, .ref 0), (1, .int (nI (b))), (2, .int (nI (c)))]) (st' := [.int (nI (bgTo S.ow (1 <<< c) 5)), .int (nI (BillN.wi ((chB S B.li B.gw B.un B.lc)))), .ref 1]) (w' := compW T S P U O1 ((chB S B.li B.gw B.un B.lc)) Q C R tl rf) rfl rfl xp_comp__1 ?_
  refine ev_iand_n dX6_envy_54 ?_
  refine ev_callVN (Yc := mX3_itemsOf) [1, 2, 3, 4, 5, 6, 7, 8] dX6_envy_55 tn_634 kX3_itemsOf (m_X3_itemsOf S _ hS (Nat.lt_of_le_of_lt Nat.and_le_left (show winB S 1023 < 2147483648 by omega))) rfl (st := []) rfl rfl rfl (by decide) hw_comp__1 (by decide) (Nat.le_of_ble_eq_true rfl) (Nat.le_refl _) (Nat.le_refl _) (fun r w' h => by obtain ⟨-, rfl⟩ := h; exact Nat.le_of_ble_eq_true rfl) ?_
  rintro _ _ ⟨rfl, rfl⟩
  refine ev_eq (lv' := [(0, .ref 0), (1, .int (nI (b))), (2, .int (nI (c)))]) (st' := [.int (nI (itTo S.st ((BillN.wi (chB S B.li B.gw B.un B.lc)) &&& bgTo S.ow (1 <<< c) 5) S.ca))]) (w' := compW T S P U O1 ((chB S B.li B.gw B.un B.lc)) Q C R tl rf) rfl rfl xp_comp__1 ?_
  refine ev_top (y := (nI (itTo S.st (winB S 1023 &&& bgTo S.ow (1 <<< c) 5) S.ca))) (congrArg nI (show itTo S.st ((BillN.wi (chB S B.li B.gw B.un B.lc)) &&& bgTo S.ow (1 <<< c) 5) S.ca = itTo S.st (winB S 1023 &&& bgTo S.ow (1 <<< c) 5) S.ca from by rfl)) ?_
  refine ev_b bX6_envy_58_65 (lv' := [(3, .int (nI (itTo S.st (winB S 1023 &&& bgTo S.ow (1 <<< c) 5) S.ca))), (0, .ref 0), (1, .int (nI (b))), (2, .int (nI (c)))]) (st' := [.int (nI (b)), .int (nI (1)), .ref 1]) (w2 := compW T S P U O1 ((chB S B.li B.gw B.un B.lc)) Q C R tl rf) rfl ?_
  refine ev_ishl_n (by omega) dX6_envy_65 ?_
  refine ev_callVN (Yc := mX3_bidsOfGroup) [1, 2, 3, 4, 5, 6, 7, 8] dX6_envy_66 tn_584 kX3_bidsOfGroup (m_X3_bidsOfGroup S (1 <<< b) h1b) rfl (st := []) rfl rfl rfl (by decide) hw_comp__1 (by decide) (Nat.le_of_ble_eq_true rfl) (Nat.le_refl _) (Nat.le_refl _) (fun r w' h => by obtain ⟨-, rfl⟩ := h; exact Nat.le_of_ble_eq_true rfl) ?_
  rintro _ _ ⟨rfl, rfl⟩
  refine ev_eq (lv' := [(3, .int (nI (itTo S.st (winB S 1023 &&& bgTo S.ow (1 <<< c) 5) S.ca))), (0, .ref 0), (1, .int (nI (b))), (2, .int (nI (c)))]) (st' := [.int (nI (bgTo S.ow (1 <<< b) 5))]) (w' := compW T S P U O1 ((chB S B.li B.gw B.un B.lc)) Q C R tl rf) rfl rfl xp_comp__1 ?_
  refine ev_b bX6_envy_69_78 (lv' := [(3, .int (nI (itTo S.st (winB S 1023 &&& bgTo S.ow (1 <<< c) 5) S.ca))), (0, .ref 0), (1, .int (nI (b))), (2, .int (nI (c)))]) (st' := [.int (nI (itTo S.st (winB S 1023 &&& bgTo S.ow (1 <<< c) 5) S.ca) ^^^ (-1)), .int (nI (63)), .ref 1, .int (nI (bgTo S.ow (1 <<< b) 5))]) (w2 := compW T S P U O1 ((chB S B.li B.gw B.un B.lc)) Q C R tl rf) rfl ?_
  refine ev_iandn_n dX6_envy_78 ?_
  refine ev_callVN (Yc := mX3_holders) [1, 2, 3, 4, 5, 6, 7, 8] dX6_envy_79 tn_685 kX3_holders (m_X3_holders S (andn 63 (itTo S.st (winB S 1023 &&& bgTo S.ow (1 <<< c) 5) S.ca)) hS (Nat.lt_of_le_of_lt (andn_le _ _) (by decide))) rfl (st := [.int (nI (bgTo S.ow (1 <<< b) 5))]) rfl rfl rfl (by decide) hw_comp__1 (by decide) (Nat.le_of_ble_eq_true rfl) (Nat.le_refl _) (Nat.le_refl _) (fun r w' h => by obtain ⟨-, rfl⟩ := h; exact Nat.le_of_ble_eq_true rfl) ?_
  rintro _ _ ⟨rfl, rfl⟩
  refine ev_eq (lv' := [(3, .int (nI (itTo S.st (winB S 1023 &&& bgTo S.ow (1 <<< c) 5) S.ca))), (0, .ref 0), (1, .int (nI (b))), (2, .int (nI (c)))]) (st' := [.int (nI (hdTo S.st (andn 63 (itTo S.st (winB S 1023 &&& bgTo S.ow (1 <<< c) 5) S.ca)) S.ca &&& S.ac)), .int (nI (bgTo S.ow (1 <<< b) 5))]) (w' := compW T S P U O1 ((chB S B.li B.gw B.un B.lc)) Q C R tl rf) rfl rfl xp_comp__1 ?_
  refine ev_b bX6_envy_82_84 (lv' := [(3, .int (nI (itTo S.st (winB S 1023 &&& bgTo S.ow (1 <<< c) 5) S.ca))), (0, .ref 0), (1, .int (nI (b))), (2, .int (nI (c)))]) (st' := [.int (nI (hdTo S.st (andn 63 (itTo S.st (winB S 1023 &&& bgTo S.ow (1 <<< c) 5) S.ca)) S.ca &&& S.ac) ^^^ (-1)), .int (nI (bgTo S.ow (1 <<< b) 5))]) (w2 := compW T S P U O1 ((chB S B.li B.gw B.un B.lc)) Q C R tl rf) rfl ?_
  refine ev_iandn_n dX6_envy_84 ?_
  refine ev_b bX6_envy_85_97 (lv' := [(4, .int (nI (andn (bgTo S.ow (1 <<< b) 5) (hdTo S.st (andn 63 (itTo S.st (winB S 1023 &&& bgTo S.ow (1 <<< c) 5) S.ca)) S.ca &&& S.ac)))), (3, .int (nI (itTo S.st (winB S 1023 &&& bgTo S.ow (1 <<< c) 5) S.ca))), (0, .ref 0), (1, .int (nI (b))), (2, .int (nI (c)))]) (st' := [.int (nI (andn (bgTo S.ow (1 <<< b) 5) (hdTo S.st (andn 63 (itTo S.st (winB S 1023 &&& bgTo S.ow (1 <<< c) 5) S.ca)) S.ca &&& S.ac))), .ref 1, .ref 25]) (w2 := compW T S P U O1 ((chB S B.li B.gw B.un B.lc)) Q C R tl rf) rfl ?_
  refine ev_callVN (Yc := mX1_mostPrices) [25, 26, 27, 28, 29, 1, 2, 3, 4, 5, 6, 7, 8] dX6_envy_97 tn_769 kX1_mostPrices (m_X1_mostPrices O1 S (andn (bgTo S.ow (1 <<< b) 5) (hdTo S.st (andn 63 (itTo S.st (winB S 1023 &&& bgTo S.ow (1 <<< c) 5) S.ca)) S.ca &&& S.ac)) (keys_ok hS hK1) hS) rfl (st := []) rfl rfl rfl (by decide) hw_comp__25_1 (by decide) (Nat.le_of_ble_eq_true rfl) (Nat.le_refl _) (Nat.le_refl _) (fun r w' h => by obtain ⟨-, rfl⟩ := h; exact Nat.le_of_ble_eq_true rfl) ?_
  rintro _ _ ⟨rfl, rfl⟩
  refine ev_eq (lv' := [(4, .int (nI (andn (bgTo S.ow (1 <<< b) 5) (hdTo S.st (andn 63 (itTo S.st (winB S 1023 &&& bgTo S.ow (1 <<< c) 5) S.ca)) S.ca &&& S.ac)))), (3, .int (nI (itTo S.st (winB S 1023 &&& bgTo S.ow (1 <<< c) 5) S.ca))), (0, .ref 0), (1, .int (nI (b))), (2, .int (nI (c)))]) (st' := [.int (nI (mostTo O1.ke S.pr S.ca (andn (bgTo S.ow (1 <<< b) 5) (hdTo S.st (andn 63 (itTo S.st (winB S 1023 &&& bgTo S.ow (1 <<< c) 5) S.ca)) S.ca &&& S.ac)) O1.sz))]) (w' := compW T S P U O1 ((chB S B.li B.gw B.un B.lc)) Q C R tl rf) rfl rfl xp_comp__25_1 ?_
  have hml : mostLs (keysOf S (packsN S S.ca)) S.pr S.ca (andn (bgTo S.ow (1 <<< b) 5) (hdTo S.st (andn 63 (itTo S.st (winB S 1023 &&& bgTo S.ow (1 <<< c) 5) S.ca)) S.ca &&& S.ac)) ≤ 990 := by rw [← most_L hK1]; exact mostTo_le hS _
  refine ev_top (y := (nI (mostLs (keysOf S (packsN S S.ca)) S.pr S.ca (andn (bgTo S.ow (1 <<< b) 5) (hdTo S.st (andn 63 (itTo S.st (winB S 1023 &&& bgTo S.ow (1 <<< c) 5) S.ca)) S.ca &&& S.ac))))) (congrArg nI (show mostTo O1.ke S.pr S.ca (andn (bgTo S.ow (1 <<< b) 5) (hdTo S.st (andn 63 (itTo S.st (winB S 1023 &&& bgTo S.ow (1 <<< c) 5) S.ca)) S.ca &&& S.ac)) O1.sz = mostLs (keysOf S (packsN S S.ca)) S.pr S.ca (andn (bgTo S.ow (1 <<< b) 5) (hdTo S.st (andn 63 (itTo S.st (winB S 1023 &&& bgTo S.ow (1 <<< c) 5) S.ca)) S.ca &&& S.ac)) from by exact most_L hK1 _ _ _)) ?_
  refine ev_b bX6_envy_100_108 (lv' := [(5, .int (nI (mostLs (keysOf S (packsN S S.ca)) S.pr S.ca (andn (bgTo S.ow (1 <<< b) 5) (hdTo S.st (andn 63 (itTo S.st (winB S 1023 &&& bgTo S.ow (1 <<< c) 5) S.ca)) S.ca &&& S.ac))))), (4, .int (nI (andn (bgTo S.ow (1 <<< b) 5) (hdTo S.st (andn 63 (itTo S.st (winB S 1023 &&& bgTo S.ow (1 <<< c) 5) S.ca)) S.ca &&& S.ac)))), (3, .int (nI (itTo S.st (winB S 1023 &&& bgTo S.ow (1 <<< c) 5) S.ca))), (0, .ref 0), (1, .int (nI (b))), (2, .int (nI (c)))]) (st' := [.int (nI (b)), .int (nI (0)), .ref 30]) (w2 := compW T S P U O1 ((chB S B.li B.gw B.un B.lc)) Q C R tl rf) rfl ?_
  refine ev_callVN (Yc := mX0_payment) [30, 31, 32, 33, 34] dX6_envy_108 tn_741 kX0_payment (m_X0_payment_0 (chB S B.li B.gw B.un B.lc) b hb) rfl (st := []) rfl rfl rfl (by decide) hw_comp__30 (by decide) (Nat.le_of_ble_eq_true rfl) (Nat.le_refl _) (Nat.le_refl _) (fun r w' h => by obtain ⟨-, rfl⟩ := h; exact Nat.le_of_ble_eq_true rfl) ?_
  rintro _ _ ⟨rfl, rfl⟩
  refine ev_eq (lv' := [(5, .int (nI (mostLs (keysOf S (packsN S S.ca)) S.pr S.ca (andn (bgTo S.ow (1 <<< b) 5) (hdTo S.st (andn 63 (itTo S.st (winB S 1023 &&& bgTo S.ow (1 <<< c) 5) S.ca)) S.ca &&& S.ac))))), (4, .int (nI (andn (bgTo S.ow (1 <<< b) 5) (hdTo S.st (andn 63 (itTo S.st (winB S 1023 &&& bgTo S.ow (1 <<< c) 5) S.ca)) S.ca &&& S.ac)))), (3, .int (nI (itTo S.st (winB S 1023 &&& bgTo S.ow (1 <<< c) 5) S.ca))), (0, .ref 0), (1, .int (nI (b))), (2, .int (nI (c)))]) (st' := [.int (zI (BillN.wo (chB S B.li B.gw B.un B.lc) b))]) (w' := compW T S P U O1 ((chB S B.li B.gw B.un B.lc)) Q C R tl rf) rfl rfl xp_comp__30 ?_
  refine ev_top (y := (zI (wonZ S b))) (congrArg zI (show BillN.wo (chB S B.li B.gw B.un B.lc) b = wonZ S b from by rfl)) ?_
  refine ev_b bX6_envy_111_117 (lv' := [(5, .int (nI (mostLs (keysOf S (packsN S S.ca)) S.pr S.ca (andn (bgTo S.ow (1 <<< b) 5) (hdTo S.st (andn 63 (itTo S.st (winB S 1023 &&& bgTo S.ow (1 <<< c) 5) S.ca)) S.ca &&& S.ac))))), (4, .int (nI (andn (bgTo S.ow (1 <<< b) 5) (hdTo S.st (andn 63 (itTo S.st (winB S 1023 &&& bgTo S.ow (1 <<< c) 5) S.ca)) S.ca &&& S.ac)))), (3, .int (nI (itTo S.st (winB S 1023 &&& bgTo S.ow (1 <<< c) 5) S.ca))), (0, .ref 0), (1, .int (nI (b))), (2, .int (nI (c)))]) (st' := [.int (nI (b)), .int (nI (1)), .ref 30, .int (zI (wonZ S b))]) (w2 := compW T S P U O1 ((chB S B.li B.gw B.un B.lc)) Q C R tl rf) rfl ?_
  refine ev_callVN (Yc := mX0_payment) [30, 31, 32, 33, 34] dX6_envy_117 tn_741 kX0_payment (m_X0_payment_1 (chB S B.li B.gw B.un B.lc) b hb) rfl (st := [.int (zI (wonZ S b))]) rfl rfl rfl (by decide) hw_comp__30 (by decide) (Nat.le_of_ble_eq_true rfl) (Nat.le_refl _) (Nat.le_refl _) (fun r w' h => by obtain ⟨-, rfl⟩ := h; exact Nat.le_of_ble_eq_true rfl) ?_
  rintro _ _ ⟨rfl, rfl⟩
  refine ev_eq (lv' := [(5, .int (nI (mostLs (keysOf S (packsN S S.ca)) S.pr S.ca (andn (bgTo S.ow (1 <<< b) 5) (hdTo S.st (andn 63 (itTo S.st (winB S 1023 &&& bgTo S.ow (1 <<< c) 5) S.ca)) S.ca &&& S.ac))))), (4, .int (nI (andn (bgTo S.ow (1 <<< b) 5) (hdTo S.st (andn 63 (itTo S.st (winB S 1023 &&& bgTo S.ow (1 <<< c) 5) S.ca)) S.ca &&& S.ac)))), (3, .int (nI (itTo S.st (winB S 1023 &&& bgTo S.ow (1 <<< c) 5) S.ca))), (0, .ref 0), (1, .int (nI (b))), (2, .int (nI (c)))]) (st' := [.int (zI (BillN.ha (chB S B.li B.gw B.un B.lc) b)), .int (zI (wonZ S b))]) (w' := compW T S P U O1 ((chB S B.li B.gw B.un B.lc)) Q C R tl rf) rfl rfl xp_comp__30 ?_
  refine ev_top (y := (zI (paidZ S b))) (congrArg zI (show BillN.ha (chB S B.li B.gw B.un B.lc) b = paidZ S b from by rfl)) ?_
  refine ev_isub_z dX6_envy_120 ?_
  refine ev_b bX6_envy_121_132 (lv' := [(6, .int (zI ((wonZ S b) - (paidZ S b)))), (5, .int (nI (mostLs (keysOf S (packsN S S.ca)) S.pr S.ca (andn (bgTo S.ow (1 <<< b) 5) (hdTo S.st (andn 63 (itTo S.st (winB S 1023 &&& bgTo S.ow (1 <<< c) 5) S.ca)) S.ca &&& S.ac))))), (4, .int (nI (andn (bgTo S.ow (1 <<< b) 5) (hdTo S.st (andn 63 (itTo S.st (winB S 1023 &&& bgTo S.ow (1 <<< c) 5) S.ca)) S.ca &&& S.ac)))), (3, .int (nI (itTo S.st (winB S 1023 &&& bgTo S.ow (1 <<< c) 5) S.ca))), (0, .ref 0), (1, .int (nI (b))), (2, .int (nI (c)))]) (st' := [.int (nI (c)), .int (nI (1)), .ref 30, .int (nI (mostLs (keysOf S (packsN S S.ca)) S.pr S.ca (andn (bgTo S.ow (1 <<< b) 5) (hdTo S.st (andn 63 (itTo S.st (winB S 1023 &&& bgTo S.ow (1 <<< c) 5) S.ca)) S.ca &&& S.ac)))), .int (nI (0))]) (w2 := compW T S P U O1 ((chB S B.li B.gw B.un B.lc)) Q C R tl rf) rfl ?_
  refine ev_callVN (Yc := mX0_payment) [30, 31, 32, 33, 34] dX6_envy_132 tn_741 kX0_payment (m_X0_payment_1 (chB S B.li B.gw B.un B.lc) c hc) rfl (st := [.int (nI (mostLs (keysOf S (packsN S S.ca)) S.pr S.ca (andn (bgTo S.ow (1 <<< b) 5) (hdTo S.st (andn 63 (itTo S.st (winB S 1023 &&& bgTo S.ow (1 <<< c) 5) S.ca)) S.ca &&& S.ac)))), .int (nI (0))]) rfl rfl rfl (by decide) hw_comp__30 (by decide) (Nat.le_of_ble_eq_true rfl) (Nat.le_refl _) (Nat.le_refl _) (fun r w' h => by obtain ⟨-, rfl⟩ := h; exact Nat.le_of_ble_eq_true rfl) ?_
  rintro _ _ ⟨rfl, rfl⟩
  refine ev_eq (lv' := [(6, .int (zI ((wonZ S b) - (paidZ S b)))), (5, .int (nI (mostLs (keysOf S (packsN S S.ca)) S.pr S.ca (andn (bgTo S.ow (1 <<< b) 5) (hdTo S.st (andn 63 (itTo S.st (winB S 1023 &&& bgTo S.ow (1 <<< c) 5) S.ca)) S.ca &&& S.ac))))), (4, .int (nI (andn (bgTo S.ow (1 <<< b) 5) (hdTo S.st (andn 63 (itTo S.st (winB S 1023 &&& bgTo S.ow (1 <<< c) 5) S.ca)) S.ca &&& S.ac)))), (3, .int (nI (itTo S.st (winB S 1023 &&& bgTo S.ow (1 <<< c) 5) S.ca))), (0, .ref 0), (1, .int (nI (b))), (2, .int (nI (c)))]) (st' := [.int (zI (BillN.ha (chB S B.li B.gw B.un B.lc) c)), .int (nI (mostLs (keysOf S (packsN S S.ca)) S.pr S.ca (andn (bgTo S.ow (1 <<< b) 5) (hdTo S.st (andn 63 (itTo S.st (winB S 1023 &&& bgTo S.ow (1 <<< c) 5) S.ca)) S.ca &&& S.ac)))), .int (nI (0))]) (w' := compW T S P U O1 ((chB S B.li B.gw B.un B.lc)) Q C R tl rf) rfl rfl xp_comp__30 ?_
  refine ev_top (y := (zI (paidZ S c))) (congrArg zI (show BillN.ha (chB S B.li B.gw B.un B.lc) c = paidZ S c from by rfl)) ?_
  refine ev_top2 (y := zI (((mostLs (keysOf S (packsN S S.ca)) S.pr S.ca (andn (bgTo S.ow (1 <<< b) 5) (hdTo S.st (andn 63 (itTo S.st (winB S 1023 &&& bgTo S.ow (1 <<< c) 5) S.ca)) S.ca &&& S.ac)) : Nat) : Int))) (zI_nat _).symm ?_
  refine ev_isub_z dX6_envy_135 ?_
  refine ev_b bX6_envy_136_138 (lv' := [(6, .int (zI ((wonZ S b) - (paidZ S b)))), (5, .int (nI (mostLs (keysOf S (packsN S S.ca)) S.pr S.ca (andn (bgTo S.ow (1 <<< b) 5) (hdTo S.st (andn 63 (itTo S.st (winB S 1023 &&& bgTo S.ow (1 <<< c) 5) S.ca)) S.ca &&& S.ac))))), (4, .int (nI (andn (bgTo S.ow (1 <<< b) 5) (hdTo S.st (andn 63 (itTo S.st (winB S 1023 &&& bgTo S.ow (1 <<< c) 5) S.ca)) S.ca &&& S.ac)))), (3, .int (nI (itTo S.st (winB S 1023 &&& bgTo S.ow (1 <<< c) 5) S.ca))), (0, .ref 0), (1, .int (nI (b))), (2, .int (nI (c)))]) (st' := [.int (zI ((wonZ S b) - (paidZ S b))), .int (zI ((((mostLs (keysOf S (packsN S S.ca)) S.pr S.ca (andn (bgTo S.ow (1 <<< b) 5) (hdTo S.st (andn 63 (itTo S.st (winB S 1023 &&& bgTo S.ow (1 <<< c) 5) S.ca)) S.ca &&& S.ac)) : Nat) : Int)) - (paidZ S c))), .int (nI (0))]) (w2 := compW T S P U O1 ((chB S B.li B.gw B.un B.lc)) Q C R tl rf) rfl ?_
  refine ev_isub_z dX6_envy_138 ?_
  refine ev_top2 (y := zI (((0 : Nat) : Int))) (zI_nat _).symm ?_
  refine ev_max dX6_envy_139 tw_702 tw_655 tw_15 tw_656 (by decide) (Nat.le_of_ble_eq_true rfl) (Nat.le_refl _) (Nat.le_refl _) ?_
  refine ev_top (z_max (by constructor <;> omega) (by constructor <;> omega)) ?_
  exact ev_iret dX6_envy_142 rfl (Nat.le_refl 49) (Nat.le_refl _) (Nat.le_refl _) ⟨rfl, _, _, _, _, _, _, rfl, hQ, rfl, rfl⟩
