theorem bX6_bid_0_5 {l : Launch} {E : XE} : Snd l E mX6_bid 0 5 (xs [x_aload 0, x_get 7 0, x_iload 1]) := Snd.cons (snd_aload_n (i := 0) dX6_bid_0 rfl) (Snd.cons (snd_get (ci := 7) (k := 0) dX6_bid_1 rfl inX6 (by decide) tw_207) (Snd.cons (snd_iload_n (i := 1) dX6_bid_4 rfl) Snd.nil))
theorem bX6_bid_11_13 {l : Launch} {E : XE} : Snd l E mX6_bid 11 13 (xs [x_aload 0, x_push (.int (-1))]) := Snd.cons (snd_aload_n (i := 0) dX6_bid_11 rfl) (Snd.cons (snd_iconst (v := -1) dX6_bid_12 (by decide)) Snd.nil)
set_option maxHeartbeats 4000000 in
set_option maxRecDepth 100000 in
theorem p_bid_1 {l : Launch} {E : XE} (T : TopN) (S P U : SaleN) (O : OutN) (B : BillN) (Q : SeaN) (C : ScrN) (R : PrtN) (tl rf : Nat → Nat) (z1 z2 : Int) (hS : SaleOK S) (hQ : Q.fd < 2147483648) (rz1 : -2147483648 ≤ z1 ∧ z1 < 2147483648) (rz2 : -2147483648 ≤ z2 ∧ z2 < 2147483648) (h : ¬ (0 ≤ z1 ∧ z1 < S.ca)) : MetE l E mX6_bid (1) 0 0 [.ref 0, .int (zI (z1)), .int (zI (z2))] (compW T S P U O B Q C R tl rf) (CP T S P (C.lt) (C.sz) tl (up rf 1 (rf 1 + 1)) (some (.int (-1)))) := by
  refine MetE.of (by decide +kernel) (Nat.le_of_ble_eq_true rfl) ?_
  have hca := hS.1
  have hpw := pow_ca hS
  have hac := ac_lt hS
  
  refine ev_eq (lv' := [(0, .ref 0), (1, .int (zI (z1))), (2, .int (zI (z2)))]) (st' := []) (w' := compW T S P U O B Q C R tl rf) rfl rfl rfl ?_
  refine ev_b bX6_bid_0_5 (lv' := [(0, .ref 0), (1, .int (zI (z1))), (2, .int (zI (z2)))]) (st' := [.int (zI (z1)), .ref 1]) (w2 := compW T S P U O B Q C R tl rf) rfl ?_
  refine ev_callVN (Yc := mX3_hasBid) [1, 2, 3, 4, 5, 6, 7, 8] dX6_bid_5 tn_444 kX3_hasBid (m_X3_hasBid_z S z1 hS rz1) rfl (st := []) rfl rfl rfl (by decide) hw_comp__1 (by decide) (Nat.le_of_ble_eq_true rfl) (Nat.le_refl _) (Nat.le_refl _) (fun r w' h => by obtain ⟨-, rfl⟩ := h; exact Nat.le_of_ble_eq_true rfl) ?_
  rintro _ _ ⟨rfl, rfl⟩
  refine ev_eq (lv' := [(0, .ref 0), (1, .int (zI (z1))), (2, .int (zI (z2)))]) (st' := [.int (nI (b01 (0 ≤ z1 ∧ z1 < S.ca)))]) (w' := compW T S P U O B Q C R tl rf) rfl rfl xp_comp__1 ?_
  refine ev_ifne_b (tgt := 17) dX6_bid_8 (by decide) (fun h8 => (by exfalso; omega)) (fun h8 => ?_)
  refine ev_b bX6_bid_11_13 (lv' := [(0, .ref 0), (1, .int (zI (z1))), (2, .int (zI (z2)))]) (st' := [.int (-1), .ref 0]) (w2 := compW T S P U O B Q C R tl rf) rfl ?_
  refine ev_callV (Yc := mX6_refuse) (rng 0 49) dX6_bid_13 tw_248 kX6_refuse (m_X6_refuse_1 T S P U O B Q C R tl rf) rfl (st := []) rfl rfl rfl (by decide) (same_hw (compW T S P U O B Q C R tl rf)) (by decide) (Nat.le_of_ble_eq_true rfl) (Nat.le_refl _) (Nat.le_refl _) (fun r w' h => by obtain ⟨-, rfl⟩ := h; exact Nat.le_of_ble_eq_true rfl) ?_
  rintro _ _ ⟨rfl, rfl⟩
  refine ev_eq (lv' := [(0, .ref 0), (1, .int (zI (z1))), (2, .int (zI (z2)))]) (st' := [.int (-1)]) (w' := compW T S P U O B Q C R tl ((up rf 1 (rf 1 + 1)))) rfl rfl (same_xp (compW T S P U O B Q C R tl rf) (compW T S P U O B Q C R tl ((up rf 1 (rf 1 + 1)))) rfl) ?_
  exact ev_iret dX6_bid_16 rfl (Nat.le_refl 49) (Nat.le_refl _) (Nat.le_refl _) ⟨rfl, _, _, _, _, _, _, rfl, hQ, rfl, rfl⟩
theorem bX6_bid_17_18 {l : Launch} {E : XE} : Snd l E mX6_bid 17 18 (xs [x_iload 2]) := Snd.cons (snd_iload_n (i := 2) dX6_bid_17 rfl) Snd.nil
theorem bX6_bid_128_131 {l : Launch} {E : XE} : Snd l E mX6_bid 128 131 (xs [x_aload 0, x_push (.int (-2))]) := Snd.cons (snd_aload_n (i := 0) dX6_bid_128 rfl) (Snd.cons (snd_bipush (v := -2) dX6_bid_129 (by decide)) Snd.nil)
set_option maxHeartbeats 4000000 in
set_option maxRecDepth 100000 in
theorem p_bid_2 {l : Launch} {E : XE} (T : TopN) (S P U : SaleN) (O : OutN) (B : BillN) (Q : SeaN) (C : ScrN) (R : PrtN) (tl rf : Nat → Nat) (k : Nat) (z2 : Int) (hS : SaleOK S) (hQ : Q.fd < 2147483648) (rz2 : -2147483648 ≤ z2 ∧ z2 < 2147483648) (hk : k < S.ca) (h : z2 < 0 ∨ 5 < z2) : MetE l E mX6_bid (1) 0 0 [.ref 0, .int (nI (k)), .int (zI (z2))] (compW T S P U O B Q C R tl rf) (CP T S P (C.lt) (C.sz) tl (up rf 2 (rf 2 + 1)) (some (.int (-2)))) := by
  refine MetE.of (by decide +kernel) (Nat.le_of_ble_eq_true rfl) ?_
  have hca := hS.1
  have hpw := pow_ca hS
  have hac := ac_lt hS
  
  refine ev_eq (lv' := [(0, .ref 0), (1, .int (nI (k))), (2, .int (zI (z2)))]) (st' := []) (w' := compW T S P U O B Q C R tl rf) rfl rfl rfl ?_
  refine ev_b bX6_bid_0_5 (lv' := [(0, .ref 0), (1, .int (nI (k))), (2, .int (zI (z2)))]) (st' := [.int (nI (k)), .ref 1]) (w2 := compW T S P U O B Q C R tl rf) rfl ?_
  refine ev_callVN (Yc := mX3_hasBid) [1, 2, 3, 4, 5, 6, 7, 8] dX6_bid_5 tn_444 kX3_hasBid (m_X3_hasBid S k hS (by omega)) rfl (st := []) rfl rfl rfl (by decide) hw_comp__1 (by decide) (Nat.le_of_ble_eq_true rfl) (Nat.le_refl _) (Nat.le_refl _) (fun r w' h => by obtain ⟨-, rfl⟩ := h; exact Nat.le_of_ble_eq_true rfl) ?_
  rintro _ _ ⟨rfl, rfl⟩
  refine ev_eq (lv' := [(0, .ref 0), (1, .int (nI (k))), (2, .int (zI (z2)))]) (st' := [.int (nI (b01 (k < S.ca)))]) (w' := compW T S P U O B Q C R tl rf) rfl rfl xp_comp__1 ?_
  refine ev_ifne_b (tgt := 17) dX6_bid_8 (by decide) (fun h8 => ?_) (fun h8 => (by exfalso; omega))
  refine ev_b bX6_bid_17_18 (lv' := [(0, .ref 0), (1, .int (nI (k))), (2, .int (zI (z2)))]) (st' := [.int (zI (z2))]) (w2 := compW T S P U O B Q C R tl rf) rfl ?_
  refine ev_tableOut (tgt := 128) dX6_bid_18 (by rw [zI_toInt (by omega) (by omega)]; omega) (by decide) ?_
  refine ev_b bX6_bid_128_131 (lv' := [(0, .ref 0), (1, .int (nI (k))), (2, .int (zI (z2)))]) (st' := [.int (-2), .ref 0]) (w2 := compW T S P U O B Q C R tl rf) rfl ?_
  refine ev_callV (Yc := mX6_refuse) (rng 0 49) dX6_bid_131 tw_248 kX6_refuse (m_X6_refuse_2 T S P U O B Q C R tl rf) rfl (st := []) rfl rfl rfl (by decide) (same_hw (compW T S P U O B Q C R tl rf)) (by decide) (Nat.le_of_ble_eq_true rfl) (Nat.le_refl _) (Nat.le_refl _) (fun r w' h => by obtain ⟨-, rfl⟩ := h; exact Nat.le_of_ble_eq_true rfl) ?_
  rintro _ _ ⟨rfl, rfl⟩
  refine ev_eq (lv' := [(0, .ref 0), (1, .int (nI (k))), (2, .int (zI (z2)))]) (st' := [.int (-2)]) (w' := compW T S P U O B Q C R tl ((up rf 2 (rf 2 + 1)))) rfl rfl (same_xp (compW T S P U O B Q C R tl rf) (compW T S P U O B Q C R tl ((up rf 2 (rf 2 + 1)))) rfl) ?_
  exact ev_iret dX6_bid_134 rfl (Nat.le_refl 49) (Nat.le_refl _) (Nat.le_refl _) ⟨rfl, _, _, _, _, _, _, rfl, hQ, rfl, rfl⟩
theorem bX6_bid_56_61 {l : Launch} {E : XE} : Snd l E mX6_bid 56 61 (xs [x_aload 0, x_get 7 0, x_iload 1]) := Snd.cons (snd_aload_n (i := 0) dX6_bid_56 rfl) (Snd.cons (snd_get (ci := 7) (k := 0) dX6_bid_57 rfl inX6 (by decide) tw_207) (Snd.cons (snd_iload_n (i := 1) dX6_bid_60 rfl) Snd.nil))
set_option maxHeartbeats 4000000 in
set_option maxRecDepth 100000 in
theorem p_bid_w0 {l : Launch} {E : XE} (T : TopN) (S P U : SaleN) (O : OutN) (B : BillN) (Q : SeaN) (C : ScrN) (R : PrtN) (tl rf : Nat → Nat) (k : Nat) (hS : SaleOK S) (hQ : Q.fd < 2147483648) (hk : k < S.ca) : MetE l E mX6_bid (2) 0 0 [.ref 0, .int (nI (k)), .int (nI (0))] (compW T S P U O B Q C R tl rf) (CP T S P (C.lt) (C.sz) tl rf (some (.int (nI (S.bd k))))) := by
  refine MetE.of (by decide +kernel) (Nat.le_of_ble_eq_true rfl) ?_
  have hca := hS.1
  have hpw := pow_ca hS
  have hac := ac_lt hS
  
  refine ev_eq (lv' := [(0, .ref 0), (1, .int (nI (k))), (2, .int (nI (0)))]) (st' := []) (w' := compW T S P U O B Q C R tl rf) rfl rfl rfl ?_
  refine ev_b bX6_bid_0_5 (lv' := [(0, .ref 0), (1, .int (nI (k))), (2, .int (nI (0)))]) (st' := [.int (nI (k)), .ref 1]) (w2 := compW T S P U O B Q C R tl rf) rfl ?_
  refine ev_callVN (Yc := mX3_hasBid) [1, 2, 3, 4, 5, 6, 7, 8] dX6_bid_5 tn_444 kX3_hasBid (m_X3_hasBid S k hS (by omega)) rfl (st := []) rfl rfl rfl (by decide) hw_comp__1 (by decide) (Nat.le_of_ble_eq_true rfl) (Nat.le_refl _) (Nat.le_refl _) (fun r w' h => by obtain ⟨-, rfl⟩ := h; exact Nat.le_of_ble_eq_true rfl) ?_
  rintro _ _ ⟨rfl, rfl⟩
  refine ev_eq (lv' := [(0, .ref 0), (1, .int (nI (k))), (2, .int (nI (0)))]) (st' := [.int (nI (b01 (k < S.ca)))]) (w' := compW T S P U O B Q C R tl rf) rfl rfl xp_comp__1 ?_
  refine ev_ifne_b (tgt := 17) dX6_bid_8 (by decide) (fun h8 => ?_) (fun h8 => (by exfalso; omega))
  refine ev_b bX6_bid_17_18 (lv' := [(0, .ref 0), (1, .int (nI (k))), (2, .int (nI (0)))]) (st' := [.int (nI (0))]) (w2 := compW T S P U O B Q C R tl rf) rfl ?_
  refine ev_tableIn (off := 38) (tgt := 56) dX6_bid_18 (by decide) (by decide) (by decide) (by decide) ?_
  refine ev_b bX6_bid_56_61 (lv' := [(0, .ref 0), (1, .int (nI (k))), (2, .int (nI (0)))]) (st' := [.int (nI (k)), .ref 1]) (w2 := compW T S P U O B Q C R tl rf) rfl ?_
  refine ev_callVN (Yc := mX3_bidderOf) [1, 2, 3, 4, 5, 6, 7, 8] dX6_bid_61 tn_485 kX3_bidderOf (m_X3_bidderOf S k hS hk) rfl (st := []) rfl rfl rfl (by decide) hw_comp__1 (by decide) (Nat.le_of_ble_eq_true rfl) (Nat.le_refl _) (Nat.le_refl _) (fun r w' h => by obtain ⟨-, rfl⟩ := h; exact Nat.le_of_ble_eq_true rfl) ?_
  rintro _ _ ⟨rfl, rfl⟩
  refine ev_eq (lv' := [(0, .ref 0), (1, .int (nI (k))), (2, .int (nI (0)))]) (st' := [.int (nI (S.bd k))]) (w' := compW T S P U O B Q C R tl rf) rfl rfl xp_comp__1 ?_
  exact ev_iret dX6_bid_64 rfl (Nat.le_refl 49) (Nat.le_refl _) (Nat.le_refl _) ⟨rfl, _, _, _, _, _, _, rfl, hQ, rfl, rfl⟩
theorem bX6_bid_65_70 {l : Launch} {E : XE} : Snd l E mX6_bid 65 70 (xs [x_aload 0, x_get 7 0, x_iload 1]) := Snd.cons (snd_aload_n (i := 0) dX6_bid_65 rfl) (Snd.cons (snd_get (ci := 7) (k := 0) dX6_bid_66 rfl inX6 (by decide) tw_207) (Snd.cons (snd_iload_n (i := 1) dX6_bid_69 rfl) Snd.nil))
set_option maxHeartbeats 4000000 in
set_option maxRecDepth 100000 in
theorem p_bid_w1 {l : Launch} {E : XE} (T : TopN) (S P U : SaleN) (O : OutN) (B : BillN) (Q : SeaN) (C : ScrN) (R : PrtN) (tl rf : Nat → Nat) (k : Nat) (hS : SaleOK S) (hQ : Q.fd < 2147483648) (hk : k < S.ca) : MetE l E mX6_bid (2) 0 0 [.ref 0, .int (nI (k)), .int (nI (1))] (compW T S P U O B Q C R tl rf) (CP T S P (C.lt) (C.sz) tl rf (some (.int (nI (S.st k))))) := by
  refine MetE.of (by decide +kernel) (Nat.le_of_ble_eq_true rfl) ?_
  have hca := hS.1
  have hpw := pow_ca hS
  have hac := ac_lt hS
  
  refine ev_eq (lv' := [(0, .ref 0), (1, .int (nI (k))), (2, .int (nI (1)))]) (st' := []) (w' := compW T S P U O B Q C R tl rf) rfl rfl rfl ?_
  refine ev_b bX6_bid_0_5 (lv' := [(0, .ref 0), (1, .int (nI (k))), (2, .int (nI (1)))]) (st' := [.int (nI (k)), .ref 1]) (w2 := compW T S P U O B Q C R tl rf) rfl ?_
  refine ev_callVN (Yc := mX3_hasBid) [1, 2, 3, 4, 5, 6, 7, 8] dX6_bid_5 tn_444 kX3_hasBid (m_X3_hasBid S k hS (by omega)) rfl (st := []) rfl rfl rfl (by decide) hw_comp__1 (by decide) (Nat.le_of_ble_eq_true rfl) (Nat.le_refl _) (Nat.le_refl _) (fun r w' h => by obtain ⟨-, rfl⟩ := h; exact Nat.le_of_ble_eq_true rfl) ?_
  rintro _ _ ⟨rfl, rfl⟩
  refine ev_eq (lv' := [(0, .ref 0), (1, .int (nI (k))), (2, .int (nI (1)))]) (st' := [.int (nI (b01 (k < S.ca)))]) (w' := compW T S P U O B Q C R tl rf) rfl rfl xp_comp__1 ?_
  refine ev_ifne_b (tgt := 17) dX6_bid_8 (by decide) (fun h8 => ?_) (fun h8 => (by exfalso; omega))
  refine ev_b bX6_bid_17_18 (lv' := [(0, .ref 0), (1, .int (nI (k))), (2, .int (nI (1)))]) (st' := [.int (nI (1))]) (w2 := compW T S P U O B Q C R tl rf) rfl ?_
  refine ev_tableIn (off := 47) (tgt := 65) dX6_bid_18 (by decide) (by decide) (by decide) (by decide) ?_
  refine ev_b bX6_bid_65_70 (lv' := [(0, .ref 0), (1, .int (nI (k))), (2, .int (nI (1)))]) (st' := [.int (nI (k)), .ref 1]) (w2 := compW T S P U O B Q C R tl rf) rfl ?_
  refine ev_callVN (Yc := mX3_setOf) [1, 2, 3, 4, 5, 6, 7, 8] dX6_bid_70 tn_489 kX3_setOf (m_X3_setOf S k hS hk) rfl (st := []) rfl rfl rfl (by decide) hw_comp__1 (by decide) (Nat.le_of_ble_eq_true rfl) (Nat.le_refl _) (Nat.le_refl _) (fun r w' h => by obtain ⟨-, rfl⟩ := h; exact Nat.le_of_ble_eq_true rfl) ?_
  rintro _ _ ⟨rfl, rfl⟩
  refine ev_eq (lv' := [(0, .ref 0), (1, .int (nI (k))), (2, .int (nI (1)))]) (st' := [.int (nI (S.st k))]) (w' := compW T S P U O B Q C R tl rf) rfl rfl xp_comp__1 ?_
  exact ev_iret dX6_bid_73 rfl (Nat.le_refl 49) (Nat.le_refl _) (Nat.le_refl _) ⟨rfl, _, _, _, _, _, _, rfl, hQ, rfl, rfl⟩
theorem bX6_bid_74_79 {l : Launch} {E : XE} : Snd l E mX6_bid 74 79 (xs [x_aload 0, x_get 7 0, x_iload 1]) := Snd.cons (snd_aload_n (i := 0) dX6_bid_74 rfl) (Snd.cons (snd_get (ci := 7) (k := 0) dX6_bid_75 rfl inX6 (by decide) tw_207) (Snd.cons (snd_iload_n (i := 1) dX6_bid_78 rfl) Snd.nil))
set_option maxHeartbeats 4000000 in
set_option maxRecDepth 100000 in
theorem p_bid_w2 {l : Launch} {E : XE} (T : TopN) (S P U : SaleN) (O : OutN) (B : BillN) (Q : SeaN) (C : ScrN) (R : PrtN) (tl rf : Nat → Nat) (k : Nat) (hS : SaleOK S) (hQ : Q.fd < 2147483648) (hk : k < S.ca) : MetE l E mX6_bid (2) 0 0 [.ref 0, .int (nI (k)), .int (nI (2))] (compW T S P U O B Q C R tl rf) (CP T S P (C.lt) (C.sz) tl rf (some (.int (nI (S.pr k))))) := by
  refine MetE.of (by decide +kernel) (Nat.le_of_ble_eq_true rfl) ?_
  have hca := hS.1
  have hpw := pow_ca hS
  have hac := ac_lt hS
  
  refine ev_eq (lv' := [(0, .ref 0), (1, .int (nI (k))), (2, .int (nI (2)))]) (st' := []) (w' := compW T S P U O B Q C R tl rf) rfl rfl rfl ?_
  refine ev_b bX6_bid_0_5 (lv' := [(0, .ref 0), (1, .int (nI (k))), (2, .int (nI (2)))]) (st' := [.int (nI (k)), .ref 1]) (w2 := compW T S P U O B Q C R tl rf) rfl ?_
  refine ev_callVN (Yc := mX3_hasBid) [1, 2, 3, 4, 5, 6, 7, 8] dX6_bid_5 tn_444 kX3_hasBid (m_X3_hasBid S k hS (by omega)) rfl (st := []) rfl rfl rfl (by decide) hw_comp__1 (by decide) (Nat.le_of_ble_eq_true rfl) (Nat.le_refl _) (Nat.le_refl _) (fun r w' h => by obtain ⟨-, rfl⟩ := h; exact Nat.le_of_ble_eq_true rfl) ?_
  rintro _ _ ⟨rfl, rfl⟩
  refine ev_eq (lv' := [(0, .ref 0), (1, .int (nI (k))), (2, .int (nI (2)))]) (st' := [.int (nI (b01 (k < S.ca)))]) (w' := compW T S P U O B Q C R tl rf) rfl rfl xp_comp__1 ?_
  refine ev_ifne_b (tgt := 17) dX6_bid_8 (by decide) (fun h8 => ?_) (fun h8 => (by exfalso; omega))
  refine ev_b bX6_bid_17_18 (lv' := [(0, .ref 0), (1, .int (nI (k))), (2, .int (nI (2)))]) (st' := [.int (nI (2))]) (w2 := compW T S P U O B Q C R tl rf) rfl ?_
  refine ev_tableIn (off := 56) (tgt := 74) dX6_bid_18 (by decide) (by decide) (by decide) (by decide) ?_
  refine ev_b bX6_bid_74_79 (lv' := [(0, .ref 0), (1, .int (nI (k))), (2, .int (nI (2)))]) (st' := [.int (nI (k)), .ref 1]) (w2 := compW T S P U O B Q C R tl rf) rfl ?_
  refine ev_callVN (Yc := mX3_priceOf) [1, 2, 3, 4, 5, 6, 7, 8] dX6_bid_79 tn_453 kX3_priceOf (m_X3_priceOf S k hS hk) rfl (st := []) rfl rfl rfl (by decide) hw_comp__1 (by decide) (Nat.le_of_ble_eq_true rfl) (Nat.le_refl _) (Nat.le_refl _) (fun r w' h => by obtain ⟨-, rfl⟩ := h; exact Nat.le_of_ble_eq_true rfl) ?_
  rintro _ _ ⟨rfl, rfl⟩
  refine ev_eq (lv' := [(0, .ref 0), (1, .int (nI (k))), (2, .int (nI (2)))]) (st' := [.int (nI (S.pr k))]) (w' := compW T S P U O B Q C R tl rf) rfl rfl xp_comp__1 ?_
  exact ev_iret dX6_bid_82 rfl (Nat.le_refl 49) (Nat.le_refl _) (Nat.le_refl _) ⟨rfl, _, _, _, _, _, _, rfl, hQ, rfl, rfl⟩
theorem bX6_bid_83_91 {l : Launch} {E : XE} : Snd l E mX6_bid 83 91 (xs [x_aload 0, x_get 7 0, x_get 4 8, x_iload 1]) := Snd.cons (snd_aload_n (i := 0) dX6_bid_83 rfl) (Snd.cons (snd_get (ci := 7) (k := 0) dX6_bid_84 rfl inX6 (by decide) tw_207) (Snd.cons (snd_getN (ci := 4) (k := 8) dX6_bid_87 rfl inX3 (by decide) tn_48) (Snd.cons (snd_iload_n (i := 1) dX6_bid_90 rfl) Snd.nil)))
set_option maxHeartbeats 4000000 in
set_option maxRecDepth 100000 in
theorem p_bid_w3 {l : Launch} {E : XE} (T : TopN) (S P U : SaleN) (O : OutN) (B : BillN) (Q : SeaN) (C : ScrN) (R : PrtN) (tl rf : Nat → Nat) (k : Nat) (hS : SaleOK S) (hQ : Q.fd < 2147483648) (hk : k < S.ca) : MetE l E mX6_bid (1) 0 0 [.ref 0, .int (nI (k)), .int (nI (3))] (compW T S P U O B Q C R tl rf) (CP T S P (C.lt) (C.sz) tl rf (some (.int (nI (b01 (S.ac.testBit k = true)))))) := by
  refine MetE.of (by decide +kernel) (Nat.le_of_ble_eq_true rfl) ?_
  have hca := hS.1
  have hpw := pow_ca hS
  have hac := ac_lt hS
  
  refine ev_eq (lv' := [(0, .ref 0), (1, .int (nI (k))), (2, .int (nI (3)))]) (st' := []) (w' := compW T S P U O B Q C R tl rf) rfl rfl rfl ?_
  refine ev_b bX6_bid_0_5 (lv' := [(0, .ref 0), (1, .int (nI (k))), (2, .int (nI (3)))]) (st' := [.int (nI (k)), .ref 1]) (w2 := compW T S P U O B Q C R tl rf) rfl ?_
  refine ev_callVN (Yc := mX3_hasBid) [1, 2, 3, 4, 5, 6, 7, 8] dX6_bid_5 tn_444 kX3_hasBid (m_X3_hasBid S k hS (by omega)) rfl (st := []) rfl rfl rfl (by decide) hw_comp__1 (by decide) (Nat.le_of_ble_eq_true rfl) (Nat.le_refl _) (Nat.le_refl _) (fun r w' h => by obtain ⟨-, rfl⟩ := h; exact Nat.le_of_ble_eq_true rfl) ?_
  rintro _ _ ⟨rfl, rfl⟩
  refine ev_eq (lv' := [(0, .ref 0), (1, .int (nI (k))), (2, .int (nI (3)))]) (st' := [.int (nI (b01 (k < S.ca)))]) (w' := compW T S P U O B Q C R tl rf) rfl rfl xp_comp__1 ?_
  refine ev_ifne_b (tgt := 17) dX6_bid_8 (by decide) (fun h8 => ?_) (fun h8 => (by exfalso; omega))
  refine ev_b bX6_bid_17_18 (lv' := [(0, .ref 0), (1, .int (nI (k))), (2, .int (nI (3)))]) (st' := [.int (nI (3))]) (w2 := compW T S P U O B Q C R tl rf) rfl ?_
  refine ev_tableIn (off := 65) (tgt := 83) dX6_bid_18 (by decide) (by decide) (by decide) (by decide) ?_
  refine ev_b bX6_bid_83_91 (lv' := [(0, .ref 0), (1, .int (nI (k))), (2, .int (nI (3)))]) (st' := [.int (nI (k)), .int (nI (S.ac))]) (w2 := compW T S P U O B Q C R tl rf) rfl ?_
  refine ev_callS (Yc := mX6_bitAt) [] dX6_bid_91 tw_446 kX6_bitAt (m_X6_bitAt S.ac k hac (by omega)) rfl (st := []) rfl (by decide) rfl (by decide) (Nat.le_of_ble_eq_true rfl) (Nat.le_refl _) (Nat.le_refl _) (fun r w' h => by obtain ⟨-, rfl⟩ := h; exact Nat.le_of_ble_eq_true rfl) ?_
  rintro _ _ ⟨rfl, rfl⟩
  refine ev_eq (lv' := [(0, .ref 0), (1, .int (nI (k))), (2, .int (nI (3)))]) (st' := [.int (nI (b01 (S.ac.testBit k = true)))]) (w' := compW T S P U O B Q C R tl rf) rfl rfl rfl ?_
  exact ev_iret dX6_bid_94 rfl (Nat.le_refl 49) (Nat.le_refl _) (Nat.le_refl _) ⟨rfl, _, _, _, _, _, _, rfl, hQ, rfl, rfl⟩
theorem bX6_bid_95_100 {l : Launch} {E : XE} : Snd l E mX6_bid 95 100 (xs [x_aload 0, x_aload 0, x_get 7 0]) := Snd.cons (snd_aload_n (i := 0) dX6_bid_95 rfl) (Snd.cons (snd_aload_n (i := 0) dX6_bid_96 rfl) (Snd.cons (snd_get (ci := 7) (k := 0) dX6_bid_97 rfl inX6 (by decide) tw_207) Snd.nil))
theorem bX6_bid_103_104 {l : Launch} {E : XE} : Snd l E mX6_bid 103 104 (xs [x_iload 1]) := Snd.cons (snd_iload_n (i := 1) dX6_bid_103 rfl) Snd.nil
set_option maxHeartbeats 4000000 in
set_option maxRecDepth 100000 in
theorem p_bid_w4 {l : Launch} {E : XE} (T : TopN) (S P U : SaleN) (O : OutN) (B : BillN) (Q : SeaN) (C : ScrN) (R : PrtN) (tl rf : Nat → Nat) (k : Nat) (hS : SaleOK S) (hQ : Q.fd < 2147483648) (hk : k < S.ca) : MetE l E mX6_bid (5) 0 0 [.ref 0, .int (nI (k)), .int (nI (4))] (compW T S P U O B Q C R tl rf) (CP T S P (C.lt) (C.sz) tl rf (some (.int (nI (b01 ((winB S 1023).testBit k = true)))))) := by
  refine MetE.of (by decide +kernel) (Nat.le_of_ble_eq_true rfl) ?_
  have hca := hS.1
  have hpw := pow_ca hS
  have hac := ac_lt hS
  
  refine ev_eq (lv' := [(0, .ref 0), (1, .int (nI (k))), (2, .int (nI (4)))]) (st' := []) (w' := compW T S P U O B Q C R tl rf) rfl rfl rfl ?_
  refine ev_b bX6_bid_0_5 (lv' := [(0, .ref 0), (1, .int (nI (k))), (2, .int (nI (4)))]) (st' := [.int (nI (k)), .ref 1]) (w2 := compW T S P U O B Q C R tl rf) rfl ?_
  refine ev_callVN (Yc := mX3_hasBid) [1, 2, 3, 4, 5, 6, 7, 8] dX6_bid_5 tn_444 kX3_hasBid (m_X3_hasBid S k hS (by omega)) rfl (st := []) rfl rfl rfl (by decide) hw_comp__1 (by decide) (Nat.le_of_ble_eq_true rfl) (Nat.le_refl _) (Nat.le_refl _) (fun r w' h => by obtain ⟨-, rfl⟩ := h; exact Nat.le_of_ble_eq_true rfl) ?_
  rintro _ _ ⟨rfl, rfl⟩
  refine ev_eq (lv' := [(0, .ref 0), (1, .int (nI (k))), (2, .int (nI (4)))]) (st' := [.int (nI (b01 (k < S.ca)))]) (w' := compW T S P U O B Q C R tl rf) rfl rfl xp_comp__1 ?_
  refine ev_ifne_b (tgt := 17) dX6_bid_8 (by decide) (fun h8 => ?_) (fun h8 => (by exfalso; omega))
  refine ev_b bX6_bid_17_18 (lv' := [(0, .ref 0), (1, .int (nI (k))), (2, .int (nI (4)))]) (st' := [.int (nI (4))]) (w2 := compW T S P U O B Q C R tl rf) rfl ?_
  refine ev_tableIn (off := 77) (tgt := 95) dX6_bid_18 (by decide) (by decide) (by decide) (by decide) ?_
  refine ev_b bX6_bid_95_100 (lv' := [(0, .ref 0), (1, .int (nI (k))), (2, .int (nI (4)))]) (st' := [.ref 1, .ref 0]) (w2 := compW T S P U O B Q C R tl rf) rfl ?_
  refine ev_callV (Yc := mX6_winnersOf) (rng 0 49) dX6_bid_100 tw_493 kX6_winnersOf (m_X6_winnersOf_S T S P U O B Q C R tl rf hS) rfl (st := []) rfl rfl rfl (by decide) (same_hw (compW T S P U O B Q C R tl rf)) (by decide) (Nat.le_of_ble_eq_true rfl) (Nat.le_refl _) (Nat.le_refl _) (fun r w' h => by obtain ⟨-, O', rfl, -⟩ := h; exact Nat.le_refl 49) ?_
  rintro _ _ ⟨rfl, O1, rfl, hK1⟩
  refine ev_eq (lv' := [(0, .ref 0), (1, .int (nI (k))), (2, .int (nI (4)))]) (st' := [.int (nI (winB S 1023))]) (w' := compW T S P U O1 B Q C R tl rf) rfl rfl (same_xp (compW T S P U O B Q C R tl rf) (compW T S P U O1 B Q C R tl rf) rfl) ?_
  have hwb := winB_lt hS 1023
  refine ev_b bX6_bid_103_104 (lv' := [(0, .ref 0), (1, .int (nI (k))), (2, .int (nI (4)))]) (st' := [.int (nI (k)), .int (nI (winB S 1023))]) (w2 := compW T S P U O1 B Q C R tl rf) rfl ?_
  refine ev_callS (Yc := mX6_bitAt) [] dX6_bid_104 tw_446 kX6_bitAt (m_X6_bitAt (winB S 1023) k (by omega) (by omega)) rfl (st := []) rfl (by decide) rfl (by decide) (Nat.le_of_ble_eq_true rfl) (Nat.le_refl _) (Nat.le_refl _) (fun r w' h => by obtain ⟨-, rfl⟩ := h; exact Nat.le_of_ble_eq_true rfl) ?_
  rintro _ _ ⟨rfl, rfl⟩
  refine ev_eq (lv' := [(0, .ref 0), (1, .int (nI (k))), (2, .int (nI (4)))]) (st' := [.int (nI (b01 ((winB S 1023).testBit k = true)))]) (w' := compW T S P U O1 B Q C R tl rf) rfl rfl rfl ?_
  exact ev_iret dX6_bid_107 rfl (Nat.le_refl 49) (Nat.le_refl _) (Nat.le_refl _) ⟨rfl, _, _, _, _, _, _, rfl, hQ, rfl, rfl⟩
theorem hw_comp__35_1 {x0 : TopN} {x1 : SaleN} {x2 : SaleN} {x3 : SaleN} {x4 : OutN} {x5 : BillN} {x6 : SeaN} {x7 : ScrN} {x8 : PrtN} {x9 : Nat → Nat} {x10 : Nat → Nat} : ([35, 36, 37, 1, 2, 3, 4, 5, 6, 7, 8] : List Nat).map (fun i => (compW x0 x1 x2 x3 x4 x5 x6 x7 x8 x9 x10)[i]?) = (seaW 0 x6 ++ saleW 3 x1).map (fun e => some (xr ([35, 36, 37, 1, 2, 3, 4, 5, 6, 7, 8] : List Nat) (compW x0 x1 x2 x3 x4 x5 x6 x7 x8 x9 x10).length e)) := rfl
theorem xp_comp__35_1 {x0 : TopN} {x1 : SaleN} {x2 : SaleN} {x3 : SaleN} {x4 : OutN} {x5 : BillN} {x6 : SeaN} {x7 : ScrN} {x8 : PrtN} {x9 : Nat → Nat} {x10 : Nat → Nat} {y0 : SeaN} {y1 : SaleN} : xput ([35, 36, 37, 1, 2, 3, 4, 5, 6, 7, 8] : List Nat) (compW x0 x1 x2 x3 x4 x5 x6 x7 x8 x9 x10).length (compW x0 x1 x2 x3 x4 x5 x6 x7 x8 x9 x10) ([35, 36, 37, 1, 2, 3, 4, 5, 6, 7, 8] : List Nat) (seaW 0 y0 ++ saleW 3 y1) = compW x0 y1 x2 x3 x4 x5 y0 x7 x8 x9 x10 := by
  have e0 : xput ([35, 36, 37, 1, 2, 3, 4, 5, 6, 7, 8] : List Nat) (compW x0 x1 x2 x3 x4 x5 x6 x7 x8 x9 x10).length (compW x0 x1 x2 x3 x4 x5 x6 x7 x8 x9 x10) ([35, 36, 37] : List Nat) (seaW 0 y0) = compW x0 x1 x2 x3 x4 x5 y0 x7 x8 x9 x10 := xput_blk (topW 0 x0 ++ (saleW 1 x1 ++ (saleW 9 x2 ++ (saleW 17 x3 ++ (outW 25 x4 ++ (billW 30 x5)))))) (seaW 35 x6) (scrW 38 x7 ++ (prtW 45 x8 ++ (row5 47 x9 ++ (row7 48 x10)))) (seaW 0 y0) rfl
  have e1 : xput ([35, 36, 37, 1, 2, 3, 4, 5, 6, 7, 8] : List Nat) (compW x0 x1 x2 x3 x4 x5 x6 x7 x8 x9 x10).length (compW x0 x1 x2 x3 x4 x5 y0 x7 x8 x9 x10) ([1, 2, 3, 4, 5, 6, 7, 8] : List Nat) (saleW 3 y1) = compW x0 y1 x2 x3 x4 x5 y0 x7 x8 x9 x10 := xput_blk (topW 0 x0) (saleW 1 x1) (saleW 9 x2 ++ (saleW 17 x3 ++ (outW 25 x4 ++ (billW 30 x5 ++ (seaW 35 y0 ++ (scrW 38 x7 ++ (prtW 45 x8 ++ (row5 47 x9 ++ (row7 48 x10))))))))) (saleW 3 y1) rfl
  refine (xput_app ([35, 36, 37] : List Nat) ([1, 2, 3, 4, 5, 6, 7, 8] : List Nat) _ (seaW 0 y0) (saleW 3 y1) rfl).trans ?_
  exact (congrArg (fun t => xput ([35, 36, 37, 1, 2, 3, 4, 5, 6, 7, 8] : List Nat) (compW x0 x1 x2 x3 x4 x5 x6 x7 x8 x9 x10).length t ([1, 2, 3, 4, 5, 6, 7, 8] : List Nat) (saleW 3 y1)) e0).trans e1
theorem hw_comp__35 {x0 : TopN} {x1 : SaleN} {x2 : SaleN} {x3 : SaleN} {x4 : OutN} {x5 : BillN} {x6 : SeaN} {x7 : ScrN} {x8 : PrtN} {x9 : Nat → Nat} {x10 : Nat → Nat} : ([35, 36, 37] : List Nat).map (fun i => (compW x0 x1 x2 x3 x4 x5 x6 x7 x8 x9 x10)[i]?) = (seaW 0 x6).map (fun e => some (xr ([35, 36, 37] : List Nat) (compW x0 x1 x2 x3 x4 x5 x6 x7 x8 x9 x10).length e)) := rfl
theorem xp_comp__35 {x0 : TopN} {x1 : SaleN} {x2 : SaleN} {x3 : SaleN} {x4 : OutN} {x5 : BillN} {x6 : SeaN} {x7 : ScrN} {x8 : PrtN} {x9 : Nat → Nat} {x10 : Nat → Nat} {y0 : SeaN} : xput ([35, 36, 37] : List Nat) (compW x0 x1 x2 x3 x4 x5 x6 x7 x8 x9 x10).length (compW x0 x1 x2 x3 x4 x5 x6 x7 x8 x9 x10) ([35, 36, 37] : List Nat) (seaW 0 y0) = compW x0 x1 x2 x3 x4 x5 y0 x7 x8 x9 x10 := by
  have e0 : xput ([35, 36, 37] : List Nat) (compW x0 x1 x2 x3 x4 x5 x6 x7 x8 x9 x10).length (compW x0 x1 x2 x3 x4 x5 x6 x7 x8 x9 x10) ([35, 36, 37] : List Nat) (seaW 0 y0) = compW x0 x1 x2 x3 x4 x5 y0 x7 x8 x9 x10 := xput_blk (topW 0 x0 ++ (saleW 1 x1 ++ (saleW 9 x2 ++ (saleW 17 x3 ++ (outW 25 x4 ++ (billW 30 x5)))))) (seaW 35 x6) (scrW 38 x7 ++ (prtW 45 x8 ++ (row5 47 x9 ++ (row7 48 x10)))) (seaW 0 y0) rfl
  exact e0
theorem bX6_bid_108_116 {l : Launch} {E : XE} : Snd l E mX6_bid 108 116 (xs [x_aload 0, x_get 7 5, x_aload 0, x_get 7 0]) := Snd.cons (snd_aload_n (i := 0) dX6_bid_108 rfl) (Snd.cons (snd_get (ci := 7) (k := 5) dX6_bid_109 rfl inX6 (by decide) tw_212) (Snd.cons (snd_aload_n (i := 0) dX6_bid_112 rfl) (Snd.cons (snd_get (ci := 7) (k := 0) dX6_bid_113 rfl inX6 (by decide) tw_207) Snd.nil)))
theorem bX6_bid_119_124 {l : Launch} {E : XE} : Snd l E mX6_bid 119 124 (xs [x_aload 0, x_get 7 5, x_iload 1]) := Snd.cons (snd_aload_n (i := 0) dX6_bid_119 rfl) (Snd.cons (snd_get (ci := 7) (k := 5) dX6_bid_120 rfl inX6 (by decide) tw_212) (Snd.cons (snd_iload_n (i := 1) dX6_bid_123 rfl) Snd.nil))
set_option maxHeartbeats 4000000 in
set_option maxRecDepth 100000 in
theorem p_bid_w5 {l : Launch} {E : XE} (T : TopN) (S P U : SaleN) (O : OutN) (B : BillN) (Q : SeaN) (C : ScrN) (R : PrtN) (tl rf : Nat → Nat) (k : Nat) (hS : SaleOK S) (hQ : Q.fd < 2147483648) (hk : k < S.ca) : MetE l E mX6_bid (3) 0 0 [.ref 0, .int (nI (k)), .int (nI (5))] (compW T S P U O B Q C R tl rf) (CP T S P (C.lt) (C.sz) tl rf (some (.int (zI (posZ k (ordN S S.ca) 0))))) := by
  refine MetE.of (by decide +kernel) (Nat.le_of_ble_eq_true rfl) ?_
  have hca := hS.1
  have hpw := pow_ca hS
  have hac := ac_lt hS
  
  refine ev_eq (lv' := [(0, .ref 0), (1, .int (nI (k))), (2, .int (nI (5)))]) (st' := []) (w' := compW T S P U O B Q C R tl rf) rfl rfl rfl ?_
  refine ev_b bX6_bid_0_5 (lv' := [(0, .ref 0), (1, .int (nI (k))), (2, .int (nI (5)))]) (st' := [.int (nI (k)), .ref 1]) (w2 := compW T S P U O B Q C R tl rf) rfl ?_
  refine ev_callVN (Yc := mX3_hasBid) [1, 2, 3, 4, 5, 6, 7, 8] dX6_bid_5 tn_444 kX3_hasBid (m_X3_hasBid S k hS (by omega)) rfl (st := []) rfl rfl rfl (by decide) hw_comp__1 (by decide) (Nat.le_of_ble_eq_true rfl) (Nat.le_refl _) (Nat.le_refl _) (fun r w' h => by obtain ⟨-, rfl⟩ := h; exact Nat.le_of_ble_eq_true rfl) ?_
  rintro _ _ ⟨rfl, rfl⟩
  refine ev_eq (lv' := [(0, .ref 0), (1, .int (nI (k))), (2, .int (nI (5)))]) (st' := [.int (nI (b01 (k < S.ca)))]) (w' := compW T S P U O B Q C R tl rf) rfl rfl xp_comp__1 ?_
  refine ev_ifne_b (tgt := 17) dX6_bid_8 (by decide) (fun h8 => ?_) (fun h8 => (by exfalso; omega))
  refine ev_b bX6_bid_17_18 (lv' := [(0, .ref 0), (1, .int (nI (k))), (2, .int (nI (5)))]) (st' := [.int (nI (5))]) (w2 := compW T S P U O B Q C R tl rf) rfl ?_
  refine ev_tableIn (off := 90) (tgt := 108) dX6_bid_18 (by decide) (by decide) (by decide) (by decide) ?_
  refine ev_b bX6_bid_108_116 (lv' := [(0, .ref 0), (1, .int (nI (k))), (2, .int (nI (5)))]) (st' := [.ref 1, .ref 35]) (w2 := compW T S P U O B Q C R tl rf) rfl ?_
  refine ev_callVN (Yc := mX5_lineUp) [35, 36, 37, 1, 2, 3, 4, 5, 6, 7, 8] dX6_bid_116 tn_556 kX5_lineUp (m_X5_lineUp Q S hS hQ) rfl (st := []) rfl rfl rfl (by decide) hw_comp__35_1 (by decide) (Nat.le_of_ble_eq_true rfl) (Nat.le_refl _) (Nat.le_refl _) (fun r w' h => by obtain ⟨-, Q3, rfl, -⟩ := h; exact Nat.le_of_ble_eq_true rfl) ?_
  rintro _ _ ⟨rfl, Q3, rfl, hQ3, -, -⟩
  refine ev_eq (lv' := [(0, .ref 0), (1, .int (nI (k))), (2, .int (nI (5)))]) (st' := []) (w' := compW T S P U O B Q3 C R tl rf) rfl rfl xp_comp__35_1 ?_
  refine ev_b bX6_bid_119_124 (lv' := [(0, .ref 0), (1, .int (nI (k))), (2, .int (nI (5)))]) (st' := [.int (nI (k)), .ref 35]) (w2 := compW T S P U O B Q3 C R tl rf) rfl ?_
  refine ev_callVN (Yc := mX5_placeOf) [35, 36, 37] dX6_bid_124 tn_572 kX5_placeOf (m_X5_placeOf Q3 (ordN S S.ca) k hQ3.1 hQ3.2.1 hQ3.2.2.1 (by omega) (fun x hx => by have := (hQ3.2.2.2.1 x hx).1; omega)) rfl (st := []) rfl rfl rfl (by decide) hw_comp__35 (by decide) (Nat.le_of_ble_eq_true rfl) (Nat.le_refl _) (Nat.le_refl _) (fun r w' h => by obtain ⟨-, rfl⟩ := h; exact Nat.le_of_ble_eq_true rfl) ?_
  rintro _ _ ⟨rfl, rfl⟩
  refine ev_eq (lv' := [(0, .ref 0), (1, .int (nI (k))), (2, .int (nI (5)))]) (st' := [.int (zI (posZ k (ordN S S.ca) 0))]) (w' := compW T S P U O B Q3 C R tl rf) rfl rfl xp_comp__35 ?_
  exact ev_iret dX6_bid_127 rfl (Nat.le_refl 49) (Nat.le_refl _) (Nat.le_refl _) ⟨rfl, _, _, _, _, _, _, rfl, hQ3.2.2.2.2, rfl, rfl⟩
theorem bX6_bidder_0_1 {l : Launch} {E : XE} : Snd l E mX6_bidder 0 1 (xs [x_iload 1]) := Snd.cons (snd_iload_n (i := 1) dX6_bidder_0 rfl) Snd.nil
theorem bX6_bidder_7_9 {l : Launch} {E : XE} : Snd l E mX6_bidder 7 9 (xs [x_aload 0, x_push (.int (-1))]) := Snd.cons (snd_aload_n (i := 0) dX6_bidder_7 rfl) (Snd.cons (snd_iconst (v := -1) dX6_bidder_8 (by decide)) Snd.nil)
set_option maxHeartbeats 4000000 in
set_option maxRecDepth 100000 in
theorem p_bidder_1 {l : Launch} {E : XE} (T : TopN) (S P U : SaleN) (O : OutN) (B : BillN) (Q : SeaN) (C : ScrN) (R : PrtN) (tl rf : Nat → Nat) (z1 z2 : Int) (hS : SaleOK S) (hQ : Q.fd < 2147483648) (rz1 : -2147483648 ≤ z1 ∧ z1 < 2147483648) (rz2 : -2147483648 ≤ z2 ∧ z2 < 2147483648) (h : ¬ (0 ≤ z1 ∧ z1 < 5)) : MetE l E mX6_bidder (1) 0 0 [.ref 0, .int (zI (z1)), .int (zI (z2))] (compW T S P U O B Q C R tl rf) (CP T S P (C.lt) (C.sz) tl (up rf 1 (rf 1 + 1)) (some (.int (-1)))) := by
  refine MetE.of (by decide +kernel) (Nat.le_of_ble_eq_true rfl) ?_
  have hca := hS.1
  have hpw := pow_ca hS
  have hac := ac_lt hS
  
  refine ev_eq (lv' := [(0, .ref 0), (1, .int (zI (z1))), (2, .int (zI (z2)))]) (st' := []) (w' := compW T S P U O B Q C R tl rf) rfl rfl rfl ?_
  refine ev_b bX6_bidder_0_1 (lv' := [(0, .ref 0), (1, .int (zI (z1))), (2, .int (zI (z2)))]) (st' := [.int (zI (z1))]) (w2 := compW T S P U O B Q C R tl rf) rfl ?_
  refine ev_callS (Yc := mX6_isBidder) [] dX6_bidder_1 tw_437 kX6_isBidder (m_X6_isBidder_z z1 rz1) rfl (st := []) rfl (by decide) rfl (by decide) (Nat.le_of_ble_eq_true rfl) (Nat.le_refl _) (Nat.le_refl _) (fun r w' h => by obtain ⟨-, rfl⟩ := h; exact Nat.le_of_ble_eq_true rfl) ?_
  rintro _ _ ⟨rfl, rfl⟩
  refine ev_eq (lv' := [(0, .ref 0), (1, .int (zI (z1))), (2, .int (zI (z2)))]) (st' := [.int (nI (b01 (0 ≤ z1 ∧ z1 < 5)))]) (w' := compW T S P U O B Q C R tl rf) rfl rfl rfl ?_
  refine ev_ifne_b (tgt := 13) dX6_bidder_4 (by decide) (fun h4 => (by exfalso; omega)) (fun h4 => ?_)
  refine ev_b bX6_bidder_7_9 (lv' := [(0, .ref 0), (1, .int (zI (z1))), (2, .int (zI (z2)))]) (st' := [.int (-1), .ref 0]) (w2 := compW T S P U O B Q C R tl rf) rfl ?_
  refine ev_callV (Yc := mX6_refuse) (rng 0 49) dX6_bidder_9 tw_248 kX6_refuse (m_X6_refuse_1 T S P U O B Q C R tl rf) rfl (st := []) rfl rfl rfl (by decide) (same_hw (compW T S P U O B Q C R tl rf)) (by decide) (Nat.le_of_ble_eq_true rfl) (Nat.le_refl _) (Nat.le_refl _) (fun r w' h => by obtain ⟨-, rfl⟩ := h; exact Nat.le_of_ble_eq_true rfl) ?_
  rintro _ _ ⟨rfl, rfl⟩
  refine ev_eq (lv' := [(0, .ref 0), (1, .int (zI (z1))), (2, .int (zI (z2)))]) (st' := [.int (-1)]) (w' := compW T S P U O B Q C R tl ((up rf 1 (rf 1 + 1)))) rfl rfl (same_xp (compW T S P U O B Q C R tl rf) (compW T S P U O B Q C R tl ((up rf 1 (rf 1 + 1)))) rfl) ?_
  exact ev_iret dX6_bidder_12 rfl (Nat.le_refl 49) (Nat.le_refl _) (Nat.le_refl _) ⟨rfl, _, _, _, _, _, _, rfl, hQ, rfl, rfl⟩
theorem bX6_bidder_13_14 {l : Launch} {E : XE} : Snd l E mX6_bidder 13 14 (xs [x_iload 2]) := Snd.cons (snd_iload_n (i := 2) dX6_bidder_13 rfl) Snd.nil
theorem bX6_bidder_126_129 {l : Launch} {E : XE} : Snd l E mX6_bidder 126 129 (xs [x_aload 0, x_push (.int (-2))]) := Snd.cons (snd_aload_n (i := 0) dX6_bidder_126 rfl) (Snd.cons (snd_bipush (v := -2) dX6_bidder_127 (by decide)) Snd.nil)
set_option maxHeartbeats 4000000 in
set_option maxRecDepth 100000 in
theorem p_bidder_2 {l : Launch} {E : XE} (T : TopN) (S P U : SaleN) (O : OutN) (B : BillN) (Q : SeaN) (C : ScrN) (R : PrtN) (tl rf : Nat → Nat) (b : Nat) (z2 : Int) (hS : SaleOK S) (hQ : Q.fd < 2147483648) (rz2 : -2147483648 ≤ z2 ∧ z2 < 2147483648) (hb : b < 5) (h : z2 < 0 ∨ 4 < z2) : MetE l E mX6_bidder (1) 0 0 [.ref 0, .int (nI (b)), .int (zI (z2))] (compW T S P U O B Q C R tl rf) (CP T S P (C.lt) (C.sz) tl (up rf 2 (rf 2 + 1)) (some (.int (-2)))) := by
  refine MetE.of (by decide +kernel) (Nat.le_of_ble_eq_true rfl) ?_
  have hca := hS.1
  have hpw := pow_ca hS
  have hac := ac_lt hS
  
  refine ev_eq (lv' := [(0, .ref 0), (1, .int (nI (b))), (2, .int (zI (z2)))]) (st' := []) (w' := compW T S P U O B Q C R tl rf) rfl rfl rfl ?_
  refine ev_b bX6_bidder_0_1 (lv' := [(0, .ref 0), (1, .int (nI (b))), (2, .int (zI (z2)))]) (st' := [.int (nI (b))]) (w2 := compW T S P U O B Q C R tl rf) rfl ?_
  refine ev_callS (Yc := mX6_isBidder) [] dX6_bidder_1 tw_437 kX6_isBidder (m_X6_isBidder b (by omega)) rfl (st := []) rfl (by decide) rfl (by decide) (Nat.le_of_ble_eq_true rfl) (Nat.le_refl _) (Nat.le_refl _) (fun r w' h => by obtain ⟨-, rfl⟩ := h; exact Nat.le_of_ble_eq_true rfl) ?_
  rintro _ _ ⟨rfl, rfl⟩
  refine ev_eq (lv' := [(0, .ref 0), (1, .int (nI (b))), (2, .int (zI (z2)))]) (st' := [.int (nI (b01 (b < 5)))]) (w' := compW T S P U O B Q C R tl rf) rfl rfl rfl ?_
  refine ev_ifne_b (tgt := 13) dX6_bidder_4 (by decide) (fun h4 => ?_) (fun h4 => (by exfalso; omega))
  refine ev_b bX6_bidder_13_14 (lv' := [(0, .ref 0), (1, .int (nI (b))), (2, .int (zI (z2)))]) (st' := [.int (zI (z2))]) (w2 := compW T S P U O B Q C R tl rf) rfl ?_
  refine ev_tableOut (tgt := 126) dX6_bidder_14 (by rw [zI_toInt (by omega) (by omega)]; omega) (by decide) ?_
  refine ev_b bX6_bidder_126_129 (lv' := [(0, .ref 0), (1, .int (nI (b))), (2, .int (zI (z2)))]) (st' := [.int (-2), .ref 0]) (w2 := compW T S P U O B Q C R tl rf) rfl ?_
  refine ev_callV (Yc := mX6_refuse) (rng 0 49) dX6_bidder_129 tw_248 kX6_refuse (m_X6_refuse_2 T S P U O B Q C R tl rf) rfl (st := []) rfl rfl rfl (by decide) (same_hw (compW T S P U O B Q C R tl rf)) (by decide) (Nat.le_of_ble_eq_true rfl) (Nat.le_refl _) (Nat.le_refl _) (fun r w' h => by obtain ⟨-, rfl⟩ := h; exact Nat.le_of_ble_eq_true rfl) ?_
  rintro _ _ ⟨rfl, rfl⟩
  refine ev_eq (lv' := [(0, .ref 0), (1, .int (nI (b))), (2, .int (zI (z2)))]) (st' := [.int (-2)]) (w' := compW T S P U O B Q C R tl ((up rf 2 (rf 2 + 1)))) rfl rfl (same_xp (compW T S P U O B Q C R tl rf) (compW T S P U O B Q C R tl ((up rf 2 (rf 2 + 1)))) rfl) ?_
  exact ev_iret dX6_bidder_132 rfl (Nat.le_refl 49) (Nat.le_refl _) (Nat.le_refl _) ⟨rfl, _, _, _, _, _, _, rfl, hQ, rfl, rfl⟩
theorem bX6_bidder_48_53 {l : Launch} {E : XE} : Snd l E mX6_bidder 48 53 (xs [x_aload 0, x_get 7 0, x_iload 1]) := Snd.cons (snd_aload_n (i := 0) dX6_bidder_48 rfl) (Snd.cons (snd_get (ci := 7) (k := 0) dX6_bidder_49 rfl inX6 (by decide) tw_207) (Snd.cons (snd_iload_n (i := 1) dX6_bidder_52 rfl) Snd.nil))
set_option maxHeartbeats 4000000 in
set_option maxRecDepth 100000 in
theorem p_bidder_w0 {l : Launch} {E : XE} (T : TopN) (S P U : SaleN) (O : OutN) (B : BillN) (Q : SeaN) (C : ScrN) (R : PrtN) (tl rf : Nat → Nat) (b : Nat) (hS : SaleOK S) (hQ : Q.fd < 2147483648) (hb : b < 5) : MetE l E mX6_bidder (2) 0 0 [.ref 0, .int (nI (b)), .int (nI (0))] (compW T S P U O B Q C R tl rf) (CP T S P (C.lt) (C.sz) tl rf (some (.int (nI (S.kd b))))) := by
  refine MetE.of (by decide +kernel) (Nat.le_of_ble_eq_true rfl) ?_
  have hca := hS.1
  have hpw := pow_ca hS
  have hac := ac_lt hS
  
  refine ev_eq (lv' := [(0, .ref 0), (1, .int (nI (b))), (2, .int (nI (0)))]) (st' := []) (w' := compW T S P U O B Q C R tl rf) rfl rfl rfl ?_
  refine ev_b bX6_bidder_0_1 (lv' := [(0, .ref 0), (1, .int (nI (b))), (2, .int (nI (0)))]) (st' := [.int (nI (b))]) (w2 := compW T S P U O B Q C R tl rf) rfl ?_
  refine ev_callS (Yc := mX6_isBidder) [] dX6_bidder_1 tw_437 kX6_isBidder (m_X6_isBidder b (by omega)) rfl (st := []) rfl (by decide) rfl (by decide) (Nat.le_of_ble_eq_true rfl) (Nat.le_refl _) (Nat.le_refl _) (fun r w' h => by obtain ⟨-, rfl⟩ := h; exact Nat.le_of_ble_eq_true rfl) ?_
  rintro _ _ ⟨rfl, rfl⟩
  refine ev_eq (lv' := [(0, .ref 0), (1, .int (nI (b))), (2, .int (nI (0)))]) (st' := [.int (nI (b01 (b < 5)))]) (w' := compW T S P U O B Q C R tl rf) rfl rfl rfl ?_
  refine ev_ifne_b (tgt := 13) dX6_bidder_4 (by decide) (fun h4 => ?_) (fun h4 => (by exfalso; omega))
  refine ev_b bX6_bidder_13_14 (lv' := [(0, .ref 0), (1, .int (nI (b))), (2, .int (nI (0)))]) (st' := [.int (nI (0))]) (w2 := compW T S P U O B Q C R tl rf) rfl ?_
  refine ev_tableIn (off := 34) (tgt := 48) dX6_bidder_14 (by decide) (by decide) (by decide) (by decide) ?_
  refine ev_b bX6_bidder_48_53 (lv' := [(0, .ref 0), (1, .int (nI (b))), (2, .int (nI (0)))]) (st' := [.int (nI (b)), .ref 1]) (w2 := compW T S P U O B Q C R tl rf) rfl ?_
  refine ev_callVN (Yc := mX3_kindOf) [1, 2, 3, 4, 5, 6, 7, 8] dX6_bidder_53 tn_462 kX3_kindOf (m_X3_kindOf S b hb) rfl (st := []) rfl rfl rfl (by decide) hw_comp__1 (by decide) (Nat.le_of_ble_eq_true rfl) (Nat.le_refl _) (Nat.le_refl _) (fun r w' h => by obtain ⟨-, rfl⟩ := h; exact Nat.le_of_ble_eq_true rfl) ?_
  rintro _ _ ⟨rfl, rfl⟩
  refine ev_eq (lv' := [(0, .ref 0), (1, .int (nI (b))), (2, .int (nI (0)))]) (st' := [.int (nI (S.kd b))]) (w' := compW T S P U O B Q C R tl rf) rfl rfl xp_comp__1 ?_
  exact ev_iret dX6_bidder_56 rfl (Nat.le_refl 49) (Nat.le_refl _) (Nat.le_refl _) ⟨rfl, _, _, _, _, _, _, rfl, hQ, rfl, rfl⟩
theorem bX6_bidder_57_62 {l : Launch} {E : XE} : Snd l E mX6_bidder 57 62 (xs [x_aload 0, x_get 7 0, x_iload 1]) := Snd.cons (snd_aload_n (i := 0) dX6_bidder_57 rfl) (Snd.cons (snd_get (ci := 7) (k := 0) dX6_bidder_58 rfl inX6 (by decide) tw_207) (Snd.cons (snd_iload_n (i := 1) dX6_bidder_61 rfl) Snd.nil))
set_option maxHeartbeats 4000000 in
set_option maxRecDepth 100000 in
theorem p_bidder_w1 {l : Launch} {E : XE} (T : TopN) (S P U : SaleN) (O : OutN) (B : BillN) (Q : SeaN) (C : ScrN) (R : PrtN) (tl rf : Nat → Nat) (b : Nat) (hS : SaleOK S) (hQ : Q.fd < 2147483648) (hb : b < 5) : MetE l E mX6_bidder (2) 0 0 [.ref 0, .int (nI (b)), .int (nI (1))] (compW T S P U O B Q C R tl rf) (CP T S P (C.lt) (C.sz) tl rf (some (.int (nI (S.fg b))))) := by
  refine MetE.of (by decide +kernel) (Nat.le_of_ble_eq_true rfl) ?_
  have hca := hS.1
  have hpw := pow_ca hS
  have hac := ac_lt hS
  
  refine ev_eq (lv' := [(0, .ref 0), (1, .int (nI (b))), (2, .int (nI (1)))]) (st' := []) (w' := compW T S P U O B Q C R tl rf) rfl rfl rfl ?_
  refine ev_b bX6_bidder_0_1 (lv' := [(0, .ref 0), (1, .int (nI (b))), (2, .int (nI (1)))]) (st' := [.int (nI (b))]) (w2 := compW T S P U O B Q C R tl rf) rfl ?_
  refine ev_callS (Yc := mX6_isBidder) [] dX6_bidder_1 tw_437 kX6_isBidder (m_X6_isBidder b (by omega)) rfl (st := []) rfl (by decide) rfl (by decide) (Nat.le_of_ble_eq_true rfl) (Nat.le_refl _) (Nat.le_refl _) (fun r w' h => by obtain ⟨-, rfl⟩ := h; exact Nat.le_of_ble_eq_true rfl) ?_
  rintro _ _ ⟨rfl, rfl⟩
  refine ev_eq (lv' := [(0, .ref 0), (1, .int (nI (b))), (2, .int (nI (1)))]) (st' := [.int (nI (b01 (b < 5)))]) (w' := compW T S P U O B Q C R tl rf) rfl rfl rfl ?_
  refine ev_ifne_b (tgt := 13) dX6_bidder_4 (by decide) (fun h4 => ?_) (fun h4 => (by exfalso; omega))
  refine ev_b bX6_bidder_13_14 (lv' := [(0, .ref 0), (1, .int (nI (b))), (2, .int (nI (1)))]) (st' := [.int (nI (1))]) (w2 := compW T S P U O B Q C R tl rf) rfl ?_
  refine ev_tableIn (off := 43) (tgt := 57) dX6_bidder_14 (by decide) (by decide) (by decide) (by decide) ?_
  refine ev_b bX6_bidder_57_62 (lv' := [(0, .ref 0), (1, .int (nI (b))), (2, .int (nI (1)))]) (st' := [.int (nI (b)), .ref 1]) (w2 := compW T S P U O B Q C R tl rf) rfl ?_
  refine ev_callVN (Yc := mX3_figureOf) [1, 2, 3, 4, 5, 6, 7, 8] dX6_bidder_62 tn_466 kX3_figureOf (m_X3_figureOf S b hb) rfl (st := []) rfl rfl rfl (by decide) hw_comp__1 (by decide) (Nat.le_of_ble_eq_true rfl) (Nat.le_refl _) (Nat.le_refl _) (fun r w' h => by obtain ⟨-, rfl⟩ := h; exact Nat.le_of_ble_eq_true rfl) ?_
  rintro _ _ ⟨rfl, rfl⟩
  refine ev_eq (lv' := [(0, .ref 0), (1, .int (nI (b))), (2, .int (nI (1)))]) (st' := [.int (nI (S.fg b))]) (w' := compW T S P U O B Q C R tl rf) rfl rfl xp_comp__1 ?_
  exact ev_iret dX6_bidder_65 rfl (Nat.le_refl 49) (Nat.le_refl _) (Nat.le_refl _) ⟨rfl, _, _, _, _, _, _, rfl, hQ, rfl, rfl⟩
theorem bX6_bidder_66_72 {l : Launch} {E : XE} : Snd l E mX6_bidder 66 72 (xs [x_aload 0, x_get 7 0, x_push (.int (nI 1)), x_iload 1]) := Snd.cons (snd_aload_n (i := 0) dX6_bidder_66 rfl) (Snd.cons (snd_get (ci := 7) (k := 0) dX6_bidder_67 rfl inX6 (by decide) tw_207) (Snd.cons (snd_iconst (v := nI 1) dX6_bidder_70 (by decide)) (Snd.cons (snd_iload_n (i := 1) dX6_bidder_71 rfl) Snd.nil)))
set_option maxHeartbeats 4000000 in
set_option maxRecDepth 100000 in
theorem p_bidder_w2 {l : Launch} {E : XE} (T : TopN) (S P U : SaleN) (O : OutN) (B : BillN) (Q : SeaN) (C : ScrN) (R : PrtN) (tl rf : Nat → Nat) (b : Nat) (hS : SaleOK S) (hQ : Q.fd < 2147483648) (hb : b < 5) : MetE l E mX6_bidder (2) 0 0 [.ref 0, .int (nI (b)), .int (nI (2))] (compW T S P U O B Q C R tl rf) (CP T S P (C.lt) (C.sz) tl rf (some (.int (nI (bgTo S.ow (1 <<< b) 5))))) := by
  refine MetE.of (by decide +kernel) (Nat.le_of_ble_eq_true rfl) ?_
  have hca := hS.1
  have hpw := pow_ca hS
  have hac := ac_lt hS
  
  refine ev_eq (lv' := [(0, .ref 0), (1, .int (nI (b))), (2, .int (nI (2)))]) (st' := []) (w' := compW T S P U O B Q C R tl rf) rfl rfl rfl ?_
  refine ev_b bX6_bidder_0_1 (lv' := [(0, .ref 0), (1, .int (nI (b))), (2, .int (nI (2)))]) (st' := [.int (nI (b))]) (w2 := compW T S P U O B Q C R tl rf) rfl ?_
  refine ev_callS (Yc := mX6_isBidder) [] dX6_bidder_1 tw_437 kX6_isBidder (m_X6_isBidder b (by omega)) rfl (st := []) rfl (by decide) rfl (by decide) (Nat.le_of_ble_eq_true rfl) (Nat.le_refl _) (Nat.le_refl _) (fun r w' h => by obtain ⟨-, rfl⟩ := h; exact Nat.le_of_ble_eq_true rfl) ?_
  rintro _ _ ⟨rfl, rfl⟩
  refine ev_eq (lv' := [(0, .ref 0), (1, .int (nI (b))), (2, .int (nI (2)))]) (st' := [.int (nI (b01 (b < 5)))]) (w' := compW T S P U O B Q C R tl rf) rfl rfl rfl ?_
  refine ev_ifne_b (tgt := 13) dX6_bidder_4 (by decide) (fun h4 => ?_) (fun h4 => (by exfalso; omega))
  refine ev_b bX6_bidder_13_14 (lv' := [(0, .ref 0), (1, .int (nI (b))), (2, .int (nI (2)))]) (st' := [.int (nI (2))]) (w2 := compW T S P U O B Q C R tl rf) rfl ?_
  refine ev_tableIn (off := 52) (tgt := 66) dX6_bidder_14 (by decide) (by decide) (by decide) (by decide) ?_
  refine ev_b bX6_bidder_66_72 (lv' := [(0, .ref 0), (1, .int (nI (b))), (2, .int (nI (2)))]) (st' := [.int (nI (b)), .int (nI (1)), .ref 1]) (w2 := compW T S P U O B Q C R tl rf) rfl ?_
  refine ev_ishl_n (by omega) dX6_bidder_72 ?_
  refine ev_callVN (Yc := mX3_bidsOfGroup) [1, 2, 3, 4, 5, 6, 7, 8] dX6_bidder_73 tn_584 kX3_bidsOfGroup (m_X3_bidsOfGroup S (1 <<< b) (one_shl_lt (by omega) (by decide))) rfl (st := []) rfl rfl rfl (by decide) hw_comp__1 (by decide) (Nat.le_of_ble_eq_true rfl) (Nat.le_refl _) (Nat.le_refl _) (fun r w' h => by obtain ⟨-, rfl⟩ := h; exact Nat.le_of_ble_eq_true rfl) ?_
  rintro _ _ ⟨rfl, rfl⟩
  refine ev_eq (lv' := [(0, .ref 0), (1, .int (nI (b))), (2, .int (nI (2)))]) (st' := [.int (nI (bgTo S.ow (1 <<< b) 5))]) (w' := compW T S P U O B Q C R tl rf) rfl rfl xp_comp__1 ?_
  exact ev_iret dX6_bidder_76 rfl (Nat.le_refl 49) (Nat.le_refl _) (Nat.le_refl _) ⟨rfl, _, _, _, _, _, _, rfl, hQ, rfl, rfl⟩
theorem bX6_bidder_77_82 {l : Launch} {E : XE} : Snd l E mX6_bidder 77 82 (xs [x_aload 0, x_aload 0, x_get 7 0]) := Snd.cons (snd_aload_n (i := 0) dX6_bidder_77 rfl) (Snd.cons (snd_aload_n (i := 0) dX6_bidder_78 rfl) (Snd.cons (snd_get (ci := 7) (k := 0) dX6_bidder_79 rfl inX6 (by decide) tw_207) Snd.nil))
theorem bX6_bidder_85_94 {l : Launch} {E : XE} : Snd l E mX6_bidder 85 94 (xs [x_aload 0, x_get 7 4, x_get 1 0, x_push (.int (nI 1)), x_iload 1]) := Snd.cons (snd_aload_n (i := 0) dX6_bidder_85 rfl) (Snd.cons (snd_get (ci := 7) (k := 4) dX6_bidder_86 rfl inX6 (by decide) tw_211) (Snd.cons (snd_getN (ci := 1) (k := 0) dX6_bidder_89 rfl inX0 (by decide) tn_103) (Snd.cons (snd_iconst (v := nI 1) dX6_bidder_92 (by decide)) (Snd.cons (snd_iload_n (i := 1) dX6_bidder_93 rfl) Snd.nil))))
set_option maxHeartbeats 4000000 in
set_option maxRecDepth 100000 in
theorem p_bidder_w3 {l : Launch} {E : XE} (T : TopN) (S P U : SaleN) (O : OutN) (B : BillN) (Q : SeaN) (C : ScrN) (R : PrtN) (tl rf : Nat → Nat) (b : Nat) (hS : SaleOK S) (hQ : Q.fd < 2147483648) (hb : b < 5) : MetE l E mX6_bidder (5) 0 0 [.ref 0, .int (nI (b)), .int (nI (3))] (compW T S P U O B Q C R tl rf) (CP T S P (C.lt) (C.sz) tl rf (some (.int (zI (totZ (wonZ S) (1 <<< b) 5))))) := by
  refine MetE.of (by decide +kernel) (Nat.le_of_ble_eq_true rfl) ?_
  have hca := hS.1
  have hpw := pow_ca hS
  have hac := ac_lt hS
  
  refine ev_eq (lv' := [(0, .ref 0), (1, .int (nI (b))), (2, .int (nI (3)))]) (st' := []) (w' := compW T S P U O B Q C R tl rf) rfl rfl rfl ?_
  refine ev_b bX6_bidder_0_1 (lv' := [(0, .ref 0), (1, .int (nI (b))), (2, .int (nI (3)))]) (st' := [.int (nI (b))]) (w2 := compW T S P U O B Q C R tl rf) rfl ?_
  refine ev_callS (Yc := mX6_isBidder) [] dX6_bidder_1 tw_437 kX6_isBidder (m_X6_isBidder b (by omega)) rfl (st := []) rfl (by decide) rfl (by decide) (Nat.le_of_ble_eq_true rfl) (Nat.le_refl _) (Nat.le_refl _) (fun r w' h => by obtain ⟨-, rfl⟩ := h; exact Nat.le_of_ble_eq_true rfl) ?_
  rintro _ _ ⟨rfl, rfl⟩
  refine ev_eq (lv' := [(0, .ref 0), (1, .int (nI (b))), (2, .int (nI (3)))]) (st' := [.int (nI (b01 (b < 5)))]) (w' := compW T S P U O B Q C R tl rf) rfl rfl rfl ?_
  refine ev_ifne_b (tgt := 13) dX6_bidder_4 (by decide) (fun h4 => ?_) (fun h4 => (by exfalso; omega))
  refine ev_b bX6_bidder_13_14 (lv' := [(0, .ref 0), (1, .int (nI (b))), (2, .int (nI (3)))]) (st' := [.int (nI (3))]) (w2 := compW T S P U O B Q C R tl rf) rfl ?_
  refine ev_tableIn (off := 63) (tgt := 77) dX6_bidder_14 (by decide) (by decide) (by decide) (by decide) ?_
  refine ev_b bX6_bidder_77_82 (lv' := [(0, .ref 0), (1, .int (nI (b))), (2, .int (nI (3)))]) (st' := [.ref 1, .ref 0]) (w2 := compW T S P U O B Q C R tl rf) rfl ?_
  refine ev_callV (Yc := mX6_charge) (rng 0 49) dX6_bidder_82 tw_588 kX6_charge (m_X6_charge_S T S P U O B Q C R tl rf hS) rfl (st := []) rfl rfl rfl (by decide) (same_hw (compW T S P U O B Q C R tl rf)) (by decide) (Nat.le_of_ble_eq_true rfl) (Nat.le_refl _) (Nat.le_refl _) (fun r w' h => by obtain ⟨-, O', rfl, -⟩ := h; exact Nat.le_refl 49) ?_
  rintro _ _ ⟨rfl, O1, rfl, hK1⟩
  refine ev_eq (lv' := [(0, .ref 0), (1, .int (nI (b))), (2, .int (nI (3)))]) (st' := []) (w' := compW T S P U O1 ((chB S B.li B.gw B.un B.lc)) Q C R tl rf) rfl rfl (same_xp (compW T S P U O B Q C R tl rf) (compW T S P U O1 ((chB S B.li B.gw B.un B.lc)) Q C R tl rf) rfl) ?_
  refine ev_b bX6_bidder_85_94 (lv' := [(0, .ref 0), (1, .int (nI (b))), (2, .int (nI (3)))]) (st' := [.int (nI (b)), .int (nI (1)), .ref 31]) (w2 := compW T S P U O1 ((chB S B.li B.gw B.un B.lc)) Q C R tl rf) rfl ?_
  refine ev_ishl_n (by omega) dX6_bidder_94 ?_
  refine ev_callSN (Yc := mX0_total) [31] dX6_bidder_95 tn_611 kX0_total (m_X0_total (wonZ S) (1 <<< b) (one_shl_lt (by omega) (by decide))) rfl (st := []) rfl (by decide) rfl (by decide) (Nat.le_of_ble_eq_true rfl) (Nat.le_refl _) (Nat.le_refl _) (fun r w' h => by obtain ⟨-, rfl⟩ := h; exact Nat.le_of_ble_eq_true rfl) ?_
  rintro _ _ ⟨rfl, rfl⟩
  refine ev_eq (lv' := [(0, .ref 0), (1, .int (nI (b))), (2, .int (nI (3)))]) (st' := [.int (zI (totZ (wonZ S) (1 <<< b) 5))]) (w' := compW T S P U O1 ((chB S B.li B.gw B.un B.lc)) Q C R tl rf) rfl rfl rfl ?_
  exact ev_iret dX6_bidder_98 rfl (Nat.le_refl 49) (Nat.le_refl _) (Nat.le_refl _) ⟨rfl, _, _, _, _, _, _, rfl, hQ, rfl, rfl⟩
theorem bX6_bidder_99_104 {l : Launch} {E : XE} : Snd l E mX6_bidder 99 104 (xs [x_aload 0, x_aload 0, x_get 7 0]) := Snd.cons (snd_aload_n (i := 0) dX6_bidder_99 rfl) (Snd.cons (snd_aload_n (i := 0) dX6_bidder_100 rfl) (Snd.cons (snd_get (ci := 7) (k := 0) dX6_bidder_101 rfl inX6 (by decide) tw_207) Snd.nil))
theorem bX6_bidder_107_121 {l : Launch} {E : XE} : Snd l E mX6_bidder 107 121 (xs [x_aload 0, x_get 7 4, x_aload 0, x_get 7 0, x_aload 0, x_get 7 3, x_push (.int (nI 1)), x_iload 1]) := Snd.cons (snd_aload_n (i := 0) dX6_bidder_107 rfl) (Snd.cons (snd_get (ci := 7) (k := 4) dX6_bidder_108 rfl inX6 (by decide) tw_211) (Snd.cons (snd_aload_n (i := 0) dX6_bidder_111 rfl) (Snd.cons (snd_get (ci := 7) (k := 0) dX6_bidder_112 rfl inX6 (by decide) tw_207) (Snd.cons (snd_aload_n (i := 0) dX6_bidder_115 rfl) (Snd.cons (snd_get (ci := 7) (k := 3) dX6_bidder_116 rfl inX6 (by decide) tw_210) (Snd.cons (snd_iconst (v := nI 1) dX6_bidder_119 (by decide)) (Snd.cons (snd_iload_n (i := 1) dX6_bidder_120 rfl) Snd.nil)))))))
set_option maxHeartbeats 4000000 in
set_option maxRecDepth 100000 in
theorem p_bidder_w4 {l : Launch} {E : XE} (T : TopN) (S P U : SaleN) (O : OutN) (B : BillN) (Q : SeaN) (C : ScrN) (R : PrtN) (tl rf : Nat → Nat) (b : Nat) (hS : SaleOK S) (hQ : Q.fd < 2147483648) (hb : b < 5) : MetE l E mX6_bidder (5) 0 0 [.ref 0, .int (nI (b)), .int (nI (4))] (compW T S P U O B Q C R tl rf) (CP T S P (C.lt) (C.sz) tl rf (some (.int (zI (harmZ S (1 <<< b)))))) := by
  refine MetE.of (by decide +kernel) (Nat.le_of_ble_eq_true rfl) ?_
  have hca := hS.1
  have hpw := pow_ca hS
  have hac := ac_lt hS
  
  refine ev_eq (lv' := [(0, .ref 0), (1, .int (nI (b))), (2, .int (nI (4)))]) (st' := []) (w' := compW T S P U O B Q C R tl rf) rfl rfl rfl ?_
  refine ev_b bX6_bidder_0_1 (lv' := [(0, .ref 0), (1, .int (nI (b))), (2, .int (nI (4)))]) (st' := [.int (nI (b))]) (w2 := compW T S P U O B Q C R tl rf) rfl ?_
  refine ev_callS (Yc := mX6_isBidder) [] dX6_bidder_1 tw_437 kX6_isBidder (m_X6_isBidder b (by omega)) rfl (st := []) rfl (by decide) rfl (by decide) (Nat.le_of_ble_eq_true rfl) (Nat.le_refl _) (Nat.le_refl _) (fun r w' h => by obtain ⟨-, rfl⟩ := h; exact Nat.le_of_ble_eq_true rfl) ?_
  rintro _ _ ⟨rfl, rfl⟩
  refine ev_eq (lv' := [(0, .ref 0), (1, .int (nI (b))), (2, .int (nI (4)))]) (st' := [.int (nI (b01 (b < 5)))]) (w' := compW T S P U O B Q C R tl rf) rfl rfl rfl ?_
  refine ev_ifne_b (tgt := 13) dX6_bidder_4 (by decide) (fun h4 => ?_) (fun h4 => (by exfalso; omega))
  refine ev_b bX6_bidder_13_14 (lv' := [(0, .ref 0), (1, .int (nI (b))), (2, .int (nI (4)))]) (st' := [.int (nI (4))]) (w2 := compW T S P U O B Q C R tl rf) rfl ?_
  refine ev_tableIn (off := 85) (tgt := 99) dX6_bidder_14 (by decide) (by decide) (by decide) (by decide) ?_
  refine ev_b bX6_bidder_99_104 (lv' := [(0, .ref 0), (1, .int (nI (b))), (2, .int (nI (4)))]) (st' := [.ref 1, .ref 0]) (w2 := compW T S P U O B Q C R tl rf) rfl ?_
  refine ev_callV (Yc := mX6_charge) (rng 0 49) dX6_bidder_104 tw_588 kX6_charge (m_X6_charge_S T S P U O B Q C R tl rf hS) rfl (st := []) rfl rfl rfl (by decide) (same_hw (compW T S P U O B Q C R tl rf)) (by decide) (Nat.le_of_ble_eq_true rfl) (Nat.le_refl _) (Nat.le_refl _) (fun r w' h => by obtain ⟨-, O', rfl, -⟩ := h; exact Nat.le_refl 49) ?_
  rintro _ _ ⟨rfl, O1, rfl, hK1⟩
  refine ev_eq (lv' := [(0, .ref 0), (1, .int (nI (b))), (2, .int (nI (4)))]) (st' := []) (w' := compW T S P U O1 ((chB S B.li B.gw B.un B.lc)) Q C R tl rf) rfl rfl (same_xp (compW T S P U O B Q C R tl rf) (compW T S P U O1 ((chB S B.li B.gw B.un B.lc)) Q C R tl rf) rfl) ?_
  refine ev_b bX6_bidder_107_121 (lv' := [(0, .ref 0), (1, .int (nI (b))), (2, .int (nI (4)))]) (st' := [.int (nI (b)), .int (nI (1)), .ref 25, .ref 1, .ref 30]) (w2 := compW T S P U O1 ((chB S B.li B.gw B.un B.lc)) Q C R tl rf) rfl ?_
  refine ev_ishl_n (by omega) dX6_bidder_121 ?_
  refine ev_callVN (Yc := mX0_harmBy) [30, 31, 32, 33, 34, 1, 2, 3, 4, 5, 6, 7, 8, 25, 26, 27, 28, 29] dX6_bidder_122 tn_612 kX0_harmBy (m_X0_harmBy (chB S B.li B.gw B.un B.lc) S O1 (1 <<< b) hS hK1 (one_shl_lt (by omega) (by decide)) rfl) rfl (st := []) rfl rfl rfl (by decide) hw_comp__30_1_25 (by decide) (Nat.le_of_ble_eq_true rfl) (Nat.le_refl _) (Nat.le_refl _) (fun r w' h => by obtain ⟨-, rfl⟩ := h; exact Nat.le_of_ble_eq_true rfl) ?_
  rintro _ _ ⟨rfl, rfl⟩
  refine ev_eq (lv' := [(0, .ref 0), (1, .int (nI (b))), (2, .int (nI (4)))]) (st' := [.int (zI (harmZ S (1 <<< b)))]) (w' := compW T S P U O1 ((chB S B.li B.gw B.un B.lc)) Q C R tl rf) rfl rfl xp_comp__30_1_25 ?_
  exact ev_iret dX6_bidder_125 rfl (Nat.le_refl 49) (Nat.le_refl _) (Nat.le_refl _) ⟨rfl, _, _, _, _, _, _, rfl, hQ, rfl, rfl⟩
