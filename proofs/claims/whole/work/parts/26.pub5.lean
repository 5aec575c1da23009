theorem bX6_group_0_1 {l : Launch} {E : XE} : Snd l E mX6_group 0 1 (xs [x_iload 1]) := Snd.cons (snd_iload_n (i := 1) dX6_group_0 rfl) Snd.nil
theorem bX6_group_4_7 {l : Launch} {E : XE} : Snd l E mX6_group 4 7 (xs [x_aload 0, x_push (.int (-4))]) := Snd.cons (snd_aload_n (i := 0) dX6_group_4 rfl) (Snd.cons (snd_bipush (v := -4) dX6_group_5 (by decide)) Snd.nil)
set_option maxHeartbeats 4000000 in
set_option maxRecDepth 100000 in
theorem p_group_4 {l : Launch} {E : XE} (T : TopN) (S P U : SaleN) (O : OutN) (B : BillN) (Q : SeaN) (C : ScrN) (R : PrtN) (tl rf : Nat → Nat) (z1 z2 : Int) (hS : SaleOK S) (hQ : Q.fd < 2147483648) (rz1 : -2147483648 ≤ z1 ∧ z1 < 2147483648) (rz2 : -2147483648 ≤ z2 ∧ z2 < 2147483648) (h : z1 < 0) : MetE l E mX6_group (1) 0 0 [.ref 0, .int (zI (z1)), .int (zI (z2))] (compW T S P U O B Q C R tl rf) (CP T S P (C.lt) (C.sz) tl (up rf 4 (rf 4 + 1)) (some (.int (-4)))) := by
  refine MetE.of (by decide +kernel) (Nat.le_of_ble_eq_true rfl) ?_
  have hca := hS.1
  have hpw := pow_ca hS
  have hac := ac_lt hS
  
  refine ev_eq (lv' := [(0, .ref 0), (1, .int (zI (z1))), (2, .int (zI (z2)))]) (st' := []) (w' := compW T S P U O B Q C R tl rf) rfl rfl rfl ?_
  refine ev_b bX6_group_0_1 (lv' := [(0, .ref 0), (1, .int (zI (z1))), (2, .int (zI (z2)))]) (st' := [.int (zI (z1))]) (w2 := compW T S P U O B Q C R tl rf) rfl ?_
  refine ev_if_ge_z (tgt := 11) (by constructor <;> omega) dX6_group_1 (by decide) (fun h1 => (by exfalso; omega)) (fun h1 => ?_)
  refine ev_b bX6_group_4_7 (lv' := [(0, .ref 0), (1, .int (zI (z1))), (2, .int (zI (z2)))]) (st' := [.int (-4), .ref 0]) (w2 := compW T S P U O B Q C R tl rf) rfl ?_
  refine ev_callV (Yc := mX6_refuse) (rng 0 49) dX6_group_7 tw_248 kX6_refuse (m_X6_refuse_4 T S P U O B Q C R tl rf) rfl (st := []) rfl rfl rfl (by decide) (same_hw (compW T S P U O B Q C R tl rf)) (by decide) (Nat.le_of_ble_eq_true rfl) (Nat.le_refl _) (Nat.le_refl _) (fun r w' h => by obtain ⟨-, rfl⟩ := h; exact Nat.le_of_ble_eq_true rfl) ?_
  rintro _ _ ⟨rfl, rfl⟩
  refine ev_eq (lv' := [(0, .ref 0), (1, .int (zI (z1))), (2, .int (zI (z2)))]) (st' := [.int (-4)]) (w' := compW T S P U O B Q C R tl ((up rf 4 (rf 4 + 1)))) rfl rfl (same_xp (compW T S P U O B Q C R tl rf) (compW T S P U O B Q C R tl ((up rf 4 (rf 4 + 1)))) rfl) ?_
  exact ev_iret dX6_group_10 rfl (Nat.le_refl 49) (Nat.le_refl _) (Nat.le_refl _) ⟨rfl, _, _, _, _, _, _, rfl, hQ, rfl, rfl⟩
theorem bX6_group_11_14 {l : Launch} {E : XE} : Snd l E mX6_group 11 14 (xs [x_iload 1, x_push (.int (nI 32))]) := Snd.cons (snd_iload_n (i := 1) dX6_group_11 rfl) (Snd.cons (snd_bipush (v := nI 32) dX6_group_12 (by decide)) Snd.nil)
theorem bX6_group_17_20 {l : Launch} {E : XE} : Snd l E mX6_group 17 20 (xs [x_aload 0, x_push (.int (-6))]) := Snd.cons (snd_aload_n (i := 0) dX6_group_17 rfl) (Snd.cons (snd_bipush (v := -6) dX6_group_18 (by decide)) Snd.nil)
set_option maxHeartbeats 4000000 in
set_option maxRecDepth 100000 in
theorem p_group_6 {l : Launch} {E : XE} (T : TopN) (S P U : SaleN) (O : OutN) (B : BillN) (Q : SeaN) (C : ScrN) (R : PrtN) (tl rf : Nat → Nat) (z1 z2 : Int) (hS : SaleOK S) (hQ : Q.fd < 2147483648) (rz1 : -2147483648 ≤ z1 ∧ z1 < 2147483648) (rz2 : -2147483648 ≤ z2 ∧ z2 < 2147483648) (h : 32 ≤ z1) : MetE l E mX6_group (1) 0 0 [.ref 0, .int (zI (z1)), .int (zI (z2))] (compW T S P U O B Q C R tl rf) (CP T S P (C.lt) (C.sz) tl (up rf 6 (rf 6 + 1)) (some (.int (-6)))) := by
  refine MetE.of (by decide +kernel) (Nat.le_of_ble_eq_true rfl) ?_
  have hca := hS.1
  have hpw := pow_ca hS
  have hac := ac_lt hS
  
  refine ev_eq (lv' := [(0, .ref 0), (1, .int (zI (z1))), (2, .int (zI (z2)))]) (st' := []) (w' := compW T S P U O B Q C R tl rf) rfl rfl rfl ?_
  refine ev_b bX6_group_0_1 (lv' := [(0, .ref 0), (1, .int (zI (z1))), (2, .int (zI (z2)))]) (st' := [.int (zI (z1))]) (w2 := compW T S P U O B Q C R tl rf) rfl ?_
  refine ev_if_ge_z (tgt := 11) (by constructor <;> omega) dX6_group_1 (by decide) (fun h1 => ?_) (fun h1 => (by exfalso; omega))
  refine ev_b bX6_group_11_14 (lv' := [(0, .ref 0), (1, .int (zI (z1))), (2, .int (zI (z2)))]) (st' := [.int (nI (32)), .int (zI (z1))]) (w2 := compW T S P U O B Q C R tl rf) rfl ?_
  refine ev_top (y := zI (((32 : Nat) : Int))) (zI_nat _).symm ?_
  refine ev_icmp_lt_z (tgt := 24) (by constructor <;> omega) (by constructor <;> omega) dX6_group_14 (by decide) (fun h14 => (by exfalso; omega)) (fun h14 => ?_)
  refine ev_b bX6_group_17_20 (lv' := [(0, .ref 0), (1, .int (zI (z1))), (2, .int (zI (z2)))]) (st' := [.int (-6), .ref 0]) (w2 := compW T S P U O B Q C R tl rf) rfl ?_
  refine ev_callV (Yc := mX6_refuse) (rng 0 49) dX6_group_20 tw_248 kX6_refuse (m_X6_refuse_6 T S P U O B Q C R tl rf) rfl (st := []) rfl rfl rfl (by decide) (same_hw (compW T S P U O B Q C R tl rf)) (by decide) (Nat.le_of_ble_eq_true rfl) (Nat.le_refl _) (Nat.le_refl _) (fun r w' h => by obtain ⟨-, rfl⟩ := h; exact Nat.le_of_ble_eq_true rfl) ?_
  rintro _ _ ⟨rfl, rfl⟩
  refine ev_eq (lv' := [(0, .ref 0), (1, .int (zI (z1))), (2, .int (zI (z2)))]) (st' := [.int (-6)]) (w' := compW T S P U O B Q C R tl ((up rf 6 (rf 6 + 1)))) rfl rfl (same_xp (compW T S P U O B Q C R tl rf) (compW T S P U O B Q C R tl ((up rf 6 (rf 6 + 1)))) rfl) ?_
  exact ev_iret dX6_group_23 rfl (Nat.le_refl 49) (Nat.le_refl _) (Nat.le_refl _) ⟨rfl, _, _, _, _, _, _, rfl, hQ, rfl, rfl⟩
theorem bX6_group_24_29 {l : Launch} {E : XE} : Snd l E mX6_group 24 29 (xs [x_aload 0, x_aload 0, x_get 7 0]) := Snd.cons (snd_aload_n (i := 0) dX6_group_24 rfl) (Snd.cons (snd_aload_n (i := 0) dX6_group_25 rfl) (Snd.cons (snd_get (ci := 7) (k := 0) dX6_group_26 rfl inX6 (by decide) tw_207) Snd.nil))
theorem bX6_group_32_33 {l : Launch} {E : XE} : Snd l E mX6_group 32 33 (xs [x_iload 2]) := Snd.cons (snd_iload_n (i := 2) dX6_group_32 rfl) Snd.nil
theorem bX6_group_147_150 {l : Launch} {E : XE} : Snd l E mX6_group 147 150 (xs [x_aload 0, x_push (.int (-2))]) := Snd.cons (snd_aload_n (i := 0) dX6_group_147 rfl) (Snd.cons (snd_bipush (v := -2) dX6_group_148 (by decide)) Snd.nil)
set_option maxHeartbeats 4000000 in
set_option maxRecDepth 100000 in
theorem p_group_2 {l : Launch} {E : XE} (T : TopN) (S P U : SaleN) (O : OutN) (B : BillN) (Q : SeaN) (C : ScrN) (R : PrtN) (tl rf : Nat → Nat) (g : Nat) (z2 : Int) (hS : SaleOK S) (hQ : Q.fd < 2147483648) (rz2 : -2147483648 ≤ z2 ∧ z2 < 2147483648) (hg : g < 32) (h : z2 < 0 ∨ 4 < z2) : MetE l E mX6_group (5) 0 0 [.ref 0, .int (nI (g)), .int (zI (z2))] (compW T S P U O B Q C R tl rf) (CP T S P (C.lt) (C.sz) tl (up rf 2 (rf 2 + 1)) (some (.int (-2)))) := by
  refine MetE.of (by decide +kernel) (Nat.le_of_ble_eq_true rfl) ?_
  have hca := hS.1
  have hpw := pow_ca hS
  have hac := ac_lt hS
  
  refine ev_eq (lv' := [(0, .ref 0), (1, .int (nI (g))), (2, .int (zI (z2)))]) (st' := []) (w' := compW T S P U O B Q C R tl rf) rfl rfl rfl ?_
  refine ev_b bX6_group_0_1 (lv' := [(0, .ref 0), (1, .int (nI (g))), (2, .int (zI (z2)))]) (st' := [.int (nI (g))]) (w2 := compW T S P U O B Q C R tl rf) rfl ?_
  refine ev_if_ge_n (tgt := 11) (by omega) dX6_group_1 (by decide) (fun h1 => ?_) (fun h1 => (by exfalso; omega))
  refine ev_b bX6_group_11_14 (lv' := [(0, .ref 0), (1, .int (nI (g))), (2, .int (zI (z2)))]) (st' := [.int (nI (32)), .int (nI (g))]) (w2 := compW T S P U O B Q C R tl rf) rfl ?_
  refine ev_icmp_lt_n (tgt := 24) (by omega) (by decide) dX6_group_14 (by decide) (fun h14 => ?_) (fun h14 => (by exfalso; omega))
  refine ev_b bX6_group_24_29 (lv' := [(0, .ref 0), (1, .int (nI (g))), (2, .int (zI (z2)))]) (st' := [.ref 1, .ref 0]) (w2 := compW T S P U O B Q C R tl rf) rfl ?_
  refine ev_callV (Yc := mX6_charge) (rng 0 49) dX6_group_29 tw_588 kX6_charge (m_X6_charge_S T S P U O B Q C R tl rf hS) rfl (st := []) rfl rfl rfl (by decide) (same_hw (compW T S P U O B Q C R tl rf)) (by decide) (Nat.le_of_ble_eq_true rfl) (Nat.le_refl _) (Nat.le_refl _) (fun r w' h => by obtain ⟨-, O', rfl, -⟩ := h; exact Nat.le_refl 49) ?_
  rintro _ _ ⟨rfl, O1, rfl, hK1⟩
  refine ev_eq (lv' := [(0, .ref 0), (1, .int (nI (g))), (2, .int (zI (z2)))]) (st' := []) (w' := compW T S P U O1 ((chB S B.li B.gw B.un B.lc)) Q C R tl rf) rfl rfl (same_xp (compW T S P U O B Q C R tl rf) (compW T S P U O1 ((chB S B.li B.gw B.un B.lc)) Q C R tl rf) rfl) ?_
  refine ev_b bX6_group_32_33 (lv' := [(0, .ref 0), (1, .int (nI (g))), (2, .int (zI (z2)))]) (st' := [.int (zI (z2))]) (w2 := compW T S P U O1 ((chB S B.li B.gw B.un B.lc)) Q C R tl rf) rfl ?_
  refine ev_tableOut (tgt := 147) dX6_group_33 (by rw [zI_toInt (by omega) (by omega)]; omega) (by decide) ?_
  refine ev_b bX6_group_147_150 (lv' := [(0, .ref 0), (1, .int (nI (g))), (2, .int (zI (z2)))]) (st' := [.int (-2), .ref 0]) (w2 := compW T S P U O1 ((chB S B.li B.gw B.un B.lc)) Q C R tl rf) rfl ?_
  refine ev_callV (Yc := mX6_refuse) (rng 0 49) dX6_group_150 tw_248 kX6_refuse (m_X6_refuse_2 T S P U O1 ((chB S B.li B.gw B.un B.lc)) Q C R tl rf) rfl (st := []) rfl rfl rfl (by decide) (same_hw (compW T S P U O1 ((chB S B.li B.gw B.un B.lc)) Q C R tl rf)) (by decide) (Nat.le_of_ble_eq_true rfl) (Nat.le_refl _) (Nat.le_refl _) (fun r w' h => by obtain ⟨-, rfl⟩ := h; exact Nat.le_of_ble_eq_true rfl) ?_
  rintro _ _ ⟨rfl, rfl⟩
  refine ev_eq (lv' := [(0, .ref 0), (1, .int (nI (g))), (2, .int (zI (z2)))]) (st' := [.int (-2)]) (w' := compW T S P U O1 ((chB S B.li B.gw B.un B.lc)) Q C R tl ((up rf 2 (rf 2 + 1)))) rfl rfl (same_xp (compW T S P U O1 ((chB S B.li B.gw B.un B.lc)) Q C R tl rf) (compW T S P U O1 ((chB S B.li B.gw B.un B.lc)) Q C R tl ((up rf 2 (rf 2 + 1)))) rfl) ?_
  exact ev_iret dX6_group_153 rfl (Nat.le_refl 49) (Nat.le_refl _) (Nat.le_refl _) ⟨rfl, _, _, _, _, _, _, rfl, hQ, rfl, rfl⟩
theorem bX6_group_68_77 {l : Launch} {E : XE} : Snd l E mX6_group 68 77 (xs [x_aload 0, x_get 7 3, x_aload 0, x_get 7 0, x_iload 1]) := Snd.cons (snd_aload_n (i := 0) dX6_group_68 rfl) (Snd.cons (snd_get (ci := 7) (k := 3) dX6_group_69 rfl inX6 (by decide) tw_210) (Snd.cons (snd_aload_n (i := 0) dX6_group_72 rfl) (Snd.cons (snd_get (ci := 7) (k := 0) dX6_group_73 rfl inX6 (by decide) tw_207) (Snd.cons (snd_iload_n (i := 1) dX6_group_76 rfl) Snd.nil))))
set_option maxHeartbeats 4000000 in
set_option maxRecDepth 100000 in
theorem p_group_w0 {l : Launch} {E : XE} (T : TopN) (S P U : SaleN) (O : OutN) (B : BillN) (Q : SeaN) (C : ScrN) (R : PrtN) (tl rf : Nat → Nat) (g : Nat) (hS : SaleOK S) (hQ : Q.fd < 2147483648) (hg : g < 32) : MetE l E mX6_group (5) 0 0 [.ref 0, .int (nI (g)), .int (nI (0))] (compW T S P U O B Q C R tl rf) (CP T S P (C.lt) (C.sz) tl rf (some (.int (nI (winW S (bgTo S.ow g 5)))))) := by
  refine MetE.of (by decide +kernel) (Nat.le_of_ble_eq_true rfl) ?_
  have hca := hS.1
  have hpw := pow_ca hS
  have hac := ac_lt hS
  obtain ⟨-, -, -, -, -, -, -, -, hk1, hk2, -⟩ := wK_spec hS (bgTo S.ow g 5)
  refine ev_eq (lv' := [(0, .ref 0), (1, .int (nI (g))), (2, .int (nI (0)))]) (st' := []) (w' := compW T S P U O B Q C R tl rf) rfl rfl rfl ?_
  refine ev_b bX6_group_0_1 (lv' := [(0, .ref 0), (1, .int (nI (g))), (2, .int (nI (0)))]) (st' := [.int (nI (g))]) (w2 := compW T S P U O B Q C R tl rf) rfl ?_
  refine ev_if_ge_n (tgt := 11) (by omega) dX6_group_1 (by decide) (fun h1 => ?_) (fun h1 => (by exfalso; omega))
  refine ev_b bX6_group_11_14 (lv' := [(0, .ref 0), (1, .int (nI (g))), (2, .int (nI (0)))]) (st' := [.int (nI (32)), .int (nI (g))]) (w2 := compW T S P U O B Q C R tl rf) rfl ?_
  refine ev_icmp_lt_n (tgt := 24) (by omega) (by decide) dX6_group_14 (by decide) (fun h14 => ?_) (fun h14 => (by exfalso; omega))
  refine ev_b bX6_group_24_29 (lv' := [(0, .ref 0), (1, .int (nI (g))), (2, .int (nI (0)))]) (st' := [.ref 1, .ref 0]) (w2 := compW T S P U O B Q C R tl rf) rfl ?_
  refine ev_callV (Yc := mX6_charge) (rng 0 49) dX6_group_29 tw_588 kX6_charge (m_X6_charge_S T S P U O B Q C R tl rf hS) rfl (st := []) rfl rfl rfl (by decide) (same_hw (compW T S P U O B Q C R tl rf)) (by decide) (Nat.le_of_ble_eq_true rfl) (Nat.le_refl _) (Nat.le_refl _) (fun r w' h => by obtain ⟨-, O', rfl, -⟩ := h; exact Nat.le_refl 49) ?_
  rintro _ _ ⟨rfl, O1, rfl, hK1⟩
  refine ev_eq (lv' := [(0, .ref 0), (1, .int (nI (g))), (2, .int (nI (0)))]) (st' := []) (w' := compW T S P U O1 ((chB S B.li B.gw B.un B.lc)) Q C R tl rf) rfl rfl (same_xp (compW T S P U O B Q C R tl rf) (compW T S P U O1 ((chB S B.li B.gw B.un B.lc)) Q C R tl rf) rfl) ?_
  refine ev_b bX6_group_32_33 (lv' := [(0, .ref 0), (1, .int (nI (g))), (2, .int (nI (0)))]) (st' := [.int (nI (0))]) (w2 := compW T S P U O1 ((chB S B.li B.gw B.un B.lc)) Q C R tl rf) rfl ?_
  refine ev_tableIn (off := 35) (tgt := 68) dX6_group_33 (by decide) (by decide) (by decide) (by decide) ?_
  refine ev_b bX6_group_68_77 (lv' := [(0, .ref 0), (1, .int (nI (g))), (2, .int (nI (0)))]) (st' := [.int (nI (g)), .ref 1, .ref 25]) (w2 := compW T S P U O1 ((chB S B.li B.gw B.un B.lc)) Q C R tl rf) rfl ?_
  refine ev_callVN (Yc := mX3_bidsOfGroup) [1, 2, 3, 4, 5, 6, 7, 8] dX6_group_77 tn_584 kX3_bidsOfGroup (m_X3_bidsOfGroup S g (by omega)) rfl (st := [.ref 25]) rfl rfl rfl (by decide) hw_comp__1 (by decide) (Nat.le_of_ble_eq_true rfl) (Nat.le_refl _) (Nat.le_refl _) (fun r w' h => by obtain ⟨-, rfl⟩ := h; exact Nat.le_of_ble_eq_true rfl) ?_
  rintro _ _ ⟨rfl, rfl⟩
  refine ev_eq (lv' := [(0, .ref 0), (1, .int (nI (g))), (2, .int (nI (0)))]) (st' := [.int (nI (bgTo S.ow g 5)), .ref 25]) (w' := compW T S P U O1 ((chB S B.li B.gw B.un B.lc)) Q C R tl rf) rfl rfl xp_comp__1 ?_
  refine ev_callVN (Yc := mX1_first) [25, 26, 27, 28, 29] dX6_group_80 tn_543 kX1_first (m_X1_first O1 (bgTo S.ow g 5) (keys_ok hS hK1)) rfl (st := []) rfl rfl rfl (by decide) hw_comp__25 (by decide) (Nat.le_of_ble_eq_true rfl) (Nat.le_refl _) (Nat.le_refl _) (fun r w' h => by obtain ⟨-, rfl⟩ := h; exact Nat.le_of_ble_eq_true rfl) ?_
  rintro _ _ ⟨rfl, rfl⟩
  refine ev_eq (lv' := [(0, .ref 0), (1, .int (nI (g))), (2, .int (nI (0)))]) (st' := [.int (nI (firstTo O1.ke (bgTo S.ow g 5) O1.sz))]) (w' := compW T S P U O1 ((chB S B.li B.gw B.un B.lc)) Q C R tl rf) rfl rfl xp_comp__25 ?_
  refine ev_top (y := (nI (wK S (bgTo S.ow g 5)))) (congrArg nI (show firstTo O1.ke (bgTo S.ow g 5) O1.sz = wK S (bgTo S.ow g 5) from by exact first_L hK1 _)) ?_
  refine ev_callSN (Yc := mX1_worthIn) [] dX6_group_83 tn_633 kX1_worthIn (m_X1_worthIn (wK S (bgTo S.ow g 5)) hk1 hk2) rfl (st := []) rfl (by decide) rfl (by decide) (Nat.le_of_ble_eq_true rfl) (Nat.le_refl _) (Nat.le_refl _) (fun r w' h => by obtain ⟨-, rfl⟩ := h; exact Nat.le_of_ble_eq_true rfl) ?_
  rintro _ _ ⟨rfl, rfl⟩
  refine ev_eq (lv' := [(0, .ref 0), (1, .int (nI (g))), (2, .int (nI (0)))]) (st' := [.int (nI (worthK (wK S (bgTo S.ow g 5))))]) (w' := compW T S P U O1 ((chB S B.li B.gw B.un B.lc)) Q C R tl rf) rfl rfl rfl ?_
  refine ev_top (y := (nI (winW S (bgTo S.ow g 5)))) (congrArg nI (show worthK (wK S (bgTo S.ow g 5)) = winW S (bgTo S.ow g 5) from by rfl)) ?_
  exact ev_iret dX6_group_86 rfl (Nat.le_refl 49) (Nat.le_refl _) (Nat.le_refl _) ⟨rfl, _, _, _, _, _, _, rfl, hQ, rfl, rfl⟩
theorem bX6_group_87_96 {l : Launch} {E : XE} : Snd l E mX6_group 87 96 (xs [x_aload 0, x_get 7 3, x_aload 0, x_get 7 0, x_iload 1]) := Snd.cons (snd_aload_n (i := 0) dX6_group_87 rfl) (Snd.cons (snd_get (ci := 7) (k := 3) dX6_group_88 rfl inX6 (by decide) tw_210) (Snd.cons (snd_aload_n (i := 0) dX6_group_91 rfl) (Snd.cons (snd_get (ci := 7) (k := 0) dX6_group_92 rfl inX6 (by decide) tw_207) (Snd.cons (snd_iload_n (i := 1) dX6_group_95 rfl) Snd.nil))))
set_option maxHeartbeats 4000000 in
set_option maxRecDepth 100000 in
theorem p_group_w1 {l : Launch} {E : XE} (T : TopN) (S P U : SaleN) (O : OutN) (B : BillN) (Q : SeaN) (C : ScrN) (R : PrtN) (tl rf : Nat → Nat) (g : Nat) (hS : SaleOK S) (hQ : Q.fd < 2147483648) (hg : g < 32) : MetE l E mX6_group (5) 0 0 [.ref 0, .int (nI (g)), .int (nI (1))] (compW T S P U O B Q C R tl rf) (CP T S P (C.lt) (C.sz) tl rf (some (.int (nI (winB S (bgTo S.ow g 5)))))) := by
  refine MetE.of (by decide +kernel) (Nat.le_of_ble_eq_true rfl) ?_
  have hca := hS.1
  have hpw := pow_ca hS
  have hac := ac_lt hS
  obtain ⟨-, -, -, -, -, -, -, -, hk1, hk2, -⟩ := wK_spec hS (bgTo S.ow g 5)
  refine ev_eq (lv' := [(0, .ref 0), (1, .int (nI (g))), (2, .int (nI (1)))]) (st' := []) (w' := compW T S P U O B Q C R tl rf) rfl rfl rfl ?_
  refine ev_b bX6_group_0_1 (lv' := [(0, .ref 0), (1, .int (nI (g))), (2, .int (nI (1)))]) (st' := [.int (nI (g))]) (w2 := compW T S P U O B Q C R tl rf) rfl ?_
  refine ev_if_ge_n (tgt := 11) (by omega) dX6_group_1 (by decide) (fun h1 => ?_) (fun h1 => (by exfalso; omega))
  refine ev_b bX6_group_11_14 (lv' := [(0, .ref 0), (1, .int (nI (g))), (2, .int (nI (1)))]) (st' := [.int (nI (32)), .int (nI (g))]) (w2 := compW T S P U O B Q C R tl rf) rfl ?_
  refine ev_icmp_lt_n (tgt := 24) (by omega) (by decide) dX6_group_14 (by decide) (fun h14 => ?_) (fun h14 => (by exfalso; omega))
  refine ev_b bX6_group_24_29 (lv' := [(0, .ref 0), (1, .int (nI (g))), (2, .int (nI (1)))]) (st' := [.ref 1, .ref 0]) (w2 := compW T S P U O B Q C R tl rf) rfl ?_
  refine ev_callV (Yc := mX6_charge) (rng 0 49) dX6_group_29 tw_588 kX6_charge (m_X6_charge_S T S P U O B Q C R tl rf hS) rfl (st := []) rfl rfl rfl (by decide) (same_hw (compW T S P U O B Q C R tl rf)) (by decide) (Nat.le_of_ble_eq_true rfl) (Nat.le_refl _) (Nat.le_refl _) (fun r w' h => by obtain ⟨-, O', rfl, -⟩ := h; exact Nat.le_refl 49) ?_
  rintro _ _ ⟨rfl, O1, rfl, hK1⟩
  refine ev_eq (lv' := [(0, .ref 0), (1, .int (nI (g))), (2, .int (nI (1)))]) (st' := []) (w' := compW T S P U O1 ((chB S B.li B.gw B.un B.lc)) Q C R tl rf) rfl rfl (same_xp (compW T S P U O B Q C R tl rf) (compW T S P U O1 ((chB S B.li B.gw B.un B.lc)) Q C R tl rf) rfl) ?_
  refine ev_b bX6_group_32_33 (lv' := [(0, .ref 0), (1, .int (nI (g))), (2, .int (nI (1)))]) (st' := [.int (nI (1))]) (w2 := compW T S P U O1 ((chB S B.li B.gw B.un B.lc)) Q C R tl rf) rfl ?_
  refine ev_tableIn (off := 54) (tgt := 87) dX6_group_33 (by decide) (by decide) (by decide) (by decide) ?_
  refine ev_b bX6_group_87_96 (lv' := [(0, .ref 0), (1, .int (nI (g))), (2, .int (nI (1)))]) (st' := [.int (nI (g)), .ref 1, .ref 25]) (w2 := compW T S P U O1 ((chB S B.li B.gw B.un B.lc)) Q C R tl rf) rfl ?_
  refine ev_callVN (Yc := mX3_bidsOfGroup) [1, 2, 3, 4, 5, 6, 7, 8] dX6_group_96 tn_584 kX3_bidsOfGroup (m_X3_bidsOfGroup S g (by omega)) rfl (st := [.ref 25]) rfl rfl rfl (by decide) hw_comp__1 (by decide) (Nat.le_of_ble_eq_true rfl) (Nat.le_refl _) (Nat.le_refl _) (fun r w' h => by obtain ⟨-, rfl⟩ := h; exact Nat.le_of_ble_eq_true rfl) ?_
  rintro _ _ ⟨rfl, rfl⟩
  refine ev_eq (lv' := [(0, .ref 0), (1, .int (nI (g))), (2, .int (nI (1)))]) (st' := [.int (nI (bgTo S.ow g 5)), .ref 25]) (w' := compW T S P U O1 ((chB S B.li B.gw B.un B.lc)) Q C R tl rf) rfl rfl xp_comp__1 ?_
  refine ev_callVN (Yc := mX1_first) [25, 26, 27, 28, 29] dX6_group_99 tn_543 kX1_first (m_X1_first O1 (bgTo S.ow g 5) (keys_ok hS hK1)) rfl (st := []) rfl rfl rfl (by decide) hw_comp__25 (by decide) (Nat.le_of_ble_eq_true rfl) (Nat.le_refl _) (Nat.le_refl _) (fun r w' h => by obtain ⟨-, rfl⟩ := h; exact Nat.le_of_ble_eq_true rfl) ?_
  rintro _ _ ⟨rfl, rfl⟩
  refine ev_eq (lv' := [(0, .ref 0), (1, .int (nI (g))), (2, .int (nI (1)))]) (st' := [.int (nI (firstTo O1.ke (bgTo S.ow g 5) O1.sz))]) (w' := compW T S P U O1 ((chB S B.li B.gw B.un B.lc)) Q C R tl rf) rfl rfl xp_comp__25 ?_
  refine ev_top (y := (nI (wK S (bgTo S.ow g 5)))) (congrArg nI (show firstTo O1.ke (bgTo S.ow g 5) O1.sz = wK S (bgTo S.ow g 5) from by exact first_L hK1 _)) ?_
  refine ev_callSN (Yc := mX1_bidsIn) [] dX6_group_102 tn_555 kX1_bidsIn (m_X1_bidsIn (wK S (bgTo S.ow g 5))) rfl (st := []) rfl (by decide) rfl (by decide) (Nat.le_of_ble_eq_true rfl) (Nat.le_refl _) (Nat.le_refl _) (fun r w' h => by obtain ⟨-, rfl⟩ := h; exact Nat.le_of_ble_eq_true rfl) ?_
  rintro _ _ ⟨rfl, rfl⟩
  refine ev_eq (lv' := [(0, .ref 0), (1, .int (nI (g))), (2, .int (nI (1)))]) (st' := [.int (nI (bidsN (wK S (bgTo S.ow g 5))))]) (w' := compW T S P U O1 ((chB S B.li B.gw B.un B.lc)) Q C R tl rf) rfl rfl rfl ?_
  refine ev_top (y := (nI (winB S (bgTo S.ow g 5)))) (congrArg nI (show bidsN (wK S (bgTo S.ow g 5)) = winB S (bgTo S.ow g 5) from by rfl)) ?_
  exact ev_iret dX6_group_105 rfl (Nat.le_refl 49) (Nat.le_refl _) (Nat.le_refl _) ⟨rfl, _, _, _, _, _, _, rfl, hQ, rfl, rfl⟩
theorem bX6_group_106_114 {l : Launch} {E : XE} : Snd l E mX6_group 106 114 (xs [x_aload 0, x_get 7 4, x_get 1 0, x_iload 1]) := Snd.cons (snd_aload_n (i := 0) dX6_group_106 rfl) (Snd.cons (snd_get (ci := 7) (k := 4) dX6_group_107 rfl inX6 (by decide) tw_211) (Snd.cons (snd_getN (ci := 1) (k := 0) dX6_group_110 rfl inX0 (by decide) tn_103) (Snd.cons (snd_iload_n (i := 1) dX6_group_113 rfl) Snd.nil)))
set_option maxHeartbeats 4000000 in
set_option maxRecDepth 100000 in
theorem p_group_w2 {l : Launch} {E : XE} (T : TopN) (S P U : SaleN) (O : OutN) (B : BillN) (Q : SeaN) (C : ScrN) (R : PrtN) (tl rf : Nat → Nat) (g : Nat) (hS : SaleOK S) (hQ : Q.fd < 2147483648) (hg : g < 32) : MetE l E mX6_group (5) 0 0 [.ref 0, .int (nI (g)), .int (nI (2))] (compW T S P U O B Q C R tl rf) (CP T S P (C.lt) (C.sz) tl rf (some (.int (zI (totZ (wonZ S) g 5))))) := by
  refine MetE.of (by decide +kernel) (Nat.le_of_ble_eq_true rfl) ?_
  have hca := hS.1
  have hpw := pow_ca hS
  have hac := ac_lt hS
  obtain ⟨-, -, -, -, -, -, -, -, hk1, hk2, -⟩ := wK_spec hS (bgTo S.ow g 5)
  refine ev_eq (lv' := [(0, .ref 0), (1, .int (nI (g))), (2, .int (nI (2)))]) (st' := []) (w' := compW T S P U O B Q C R tl rf) rfl rfl rfl ?_
  refine ev_b bX6_group_0_1 (lv' := [(0, .ref 0), (1, .int (nI (g))), (2, .int (nI (2)))]) (st' := [.int (nI (g))]) (w2 := compW T S P U O B Q C R tl rf) rfl ?_
  refine ev_if_ge_n (tgt := 11) (by omega) dX6_group_1 (by decide) (fun h1 => ?_) (fun h1 => (by exfalso; omega))
  refine ev_b bX6_group_11_14 (lv' := [(0, .ref 0), (1, .int (nI (g))), (2, .int (nI (2)))]) (st' := [.int (nI (32)), .int (nI (g))]) (w2 := compW T S P U O B Q C R tl rf) rfl ?_
  refine ev_icmp_lt_n (tgt := 24) (by omega) (by decide) dX6_group_14 (by decide) (fun h14 => ?_) (fun h14 => (by exfalso; omega))
  refine ev_b bX6_group_24_29 (lv' := [(0, .ref 0), (1, .int (nI (g))), (2, .int (nI (2)))]) (st' := [.ref 1, .ref 0]) (w2 := compW T S P U O B Q C R tl rf) rfl ?_
  refine ev_callV (Yc := mX6_charge) (rng 0 49) dX6_group_29 tw_588 kX6_charge (m_X6_charge_S T S P U O B Q C R tl rf hS) rfl (st := []) rfl rfl rfl (by decide) (same_hw (compW T S P U O B Q C R tl rf)) (by decide) (Nat.le_of_ble_eq_true rfl) (Nat.le_refl _) (Nat.le_refl _) (fun r w' h => by obtain ⟨-, O', rfl, -⟩ := h; exact Nat.le_refl 49) ?_
  rintro _ _ ⟨rfl, O1, rfl, hK1⟩
  refine ev_eq (lv' := [(0, .ref 0), (1, .int (nI (g))), (2, .int (nI (2)))]) (st' := []) (w' := compW T S P U O1 ((chB S B.li B.gw B.un B.lc)) Q C R tl rf) rfl rfl (same_xp (compW T S P U O B Q C R tl rf) (compW T S P U O1 ((chB S B.li B.gw B.un B.lc)) Q C R tl rf) rfl) ?_
  refine ev_b bX6_group_32_33 (lv' := [(0, .ref 0), (1, .int (nI (g))), (2, .int (nI (2)))]) (st' := [.int (nI (2))]) (w2 := compW T S P U O1 ((chB S B.li B.gw B.un B.lc)) Q C R tl rf) rfl ?_
  refine ev_tableIn (off := 73) (tgt := 106) dX6_group_33 (by decide) (by decide) (by decide) (by decide) ?_
  refine ev_b bX6_group_106_114 (lv' := [(0, .ref 0), (1, .int (nI (g))), (2, .int (nI (2)))]) (st' := [.int (nI (g)), .ref 31]) (w2 := compW T S P U O1 ((chB S B.li B.gw B.un B.lc)) Q C R tl rf) rfl ?_
  refine ev_callSN (Yc := mX0_total) [31] dX6_group_114 tn_611 kX0_total (m_X0_total (wonZ S) g (by omega)) rfl (st := []) rfl (by decide) rfl (by decide) (Nat.le_of_ble_eq_true rfl) (Nat.le_refl _) (Nat.le_refl _) (fun r w' h => by obtain ⟨-, rfl⟩ := h; exact Nat.le_of_ble_eq_true rfl) ?_
  rintro _ _ ⟨rfl, rfl⟩
  refine ev_eq (lv' := [(0, .ref 0), (1, .int (nI (g))), (2, .int (nI (2)))]) (st' := [.int (zI (totZ (wonZ S) g 5))]) (w' := compW T S P U O1 ((chB S B.li B.gw B.un B.lc)) Q C R tl rf) rfl rfl rfl ?_
  exact ev_iret dX6_group_117 rfl (Nat.le_refl 49) (Nat.le_refl _) (Nat.le_refl _) ⟨rfl, _, _, _, _, _, _, rfl, hQ, rfl, rfl⟩
theorem bX6_group_118_131 {l : Launch} {E : XE} : Snd l E mX6_group 118 131 (xs [x_aload 0, x_get 7 4, x_aload 0, x_get 7 0, x_aload 0, x_get 7 3, x_iload 1]) := Snd.cons (snd_aload_n (i := 0) dX6_group_118 rfl) (Snd.cons (snd_get (ci := 7) (k := 4) dX6_group_119 rfl inX6 (by decide) tw_211) (Snd.cons (snd_aload_n (i := 0) dX6_group_122 rfl) (Snd.cons (snd_get (ci := 7) (k := 0) dX6_group_123 rfl inX6 (by decide) tw_207) (Snd.cons (snd_aload_n (i := 0) dX6_group_126 rfl) (Snd.cons (snd_get (ci := 7) (k := 3) dX6_group_127 rfl inX6 (by decide) tw_210) (Snd.cons (snd_iload_n (i := 1) dX6_group_130 rfl) Snd.nil))))))
set_option maxHeartbeats 4000000 in
set_option maxRecDepth 100000 in
theorem p_group_w3 {l : Launch} {E : XE} (T : TopN) (S P U : SaleN) (O : OutN) (B : BillN) (Q : SeaN) (C : ScrN) (R : PrtN) (tl rf : Nat → Nat) (g : Nat) (hS : SaleOK S) (hQ : Q.fd < 2147483648) (hg : g < 32) : MetE l E mX6_group (5) 0 0 [.ref 0, .int (nI (g)), .int (nI (3))] (compW T S P U O B Q C R tl rf) (CP T S P (C.lt) (C.sz) tl rf (some (.int (zI (harmZ S g))))) := by
  refine MetE.of (by decide +kernel) (Nat.le_of_ble_eq_true rfl) ?_
  have hca := hS.1
  have hpw := pow_ca hS
  have hac := ac_lt hS
  obtain ⟨-, -, -, -, -, -, -, -, hk1, hk2, -⟩ := wK_spec hS (bgTo S.ow g 5)
  refine ev_eq (lv' := [(0, .ref 0), (1, .int (nI (g))), (2, .int (nI (3)))]) (st' := []) (w' := compW T S P U O B Q C R tl rf) rfl rfl rfl ?_
  refine ev_b bX6_group_0_1 (lv' := [(0, .ref 0), (1, .int (nI (g))), (2, .int (nI (3)))]) (st' := [.int (nI (g))]) (w2 := compW T S P U O B Q C R tl rf) rfl ?_
  refine ev_if_ge_n (tgt := 11) (by omega) dX6_group_1 (by decide) (fun h1 => ?_) (fun h1 => (by exfalso; omega))
  refine ev_b bX6_group_11_14 (lv' := [(0, .ref 0), (1, .int (nI (g))), (2, .int (nI (3)))]) (st' := [.int (nI (32)), .int (nI (g))]) (w2 := compW T S P U O B Q C R tl rf) rfl ?_
  refine ev_icmp_lt_n (tgt := 24) (by omega) (by decide) dX6_group_14 (by decide) (fun h14 => ?_) (fun h14 => (by exfalso; omega))
  refine ev_b bX6_group_24_29 (lv' := [(0, .ref 0), (1, .int (nI (g))), (2, .int (nI (3)))]) (st' := [.ref 1, .ref 0]) (w2 := compW T S P U O B Q C R tl rf) rfl ?_
  refine ev_callV (Yc := mX6_charge) (rng 0 49) dX6_group_29 tw_588 kX6_charge (m_X6_charge_S T S P U O B Q C R tl rf hS) rfl (st := []) rfl rfl rfl (by decide) (same_hw (compW T S P U O B Q C R tl rf)) (by decide) (Nat.le_of_ble_eq_true rfl) (Nat.le_refl _) (Nat.le_refl _) (fun r w' h => by obtain ⟨-, O', rfl, -⟩ := h; exact Nat.le_refl 49) ?_
  rintro _ _ ⟨rfl, O1, rfl, hK1⟩
  refine ev_eq (lv' := [(0, .ref 0), (1, .int (nI (g))), (2, .int (nI (3)))]) (st' := []) (w' := compW T S P U O1 ((chB S B.li B.gw B.un B.lc)) Q C R tl rf) rfl rfl (same_xp (compW T S P U O B Q C R tl rf) (compW T S P U O1 ((chB S B.li B.gw B.un B.lc)) Q C R tl rf) rfl) ?_
  refine ev_b bX6_group_32_33 (lv' := [(0, .ref 0), (1, .int (nI (g))), (2, .int (nI (3)))]) (st' := [.int (nI (3))]) (w2 := compW T S P U O1 ((chB S B.li B.gw B.un B.lc)) Q C R tl rf) rfl ?_
  refine ev_tableIn (off := 85) (tgt := 118) dX6_group_33 (by decide) (by decide) (by decide) (by decide) ?_
  refine ev_b bX6_group_118_131 (lv' := [(0, .ref 0), (1, .int (nI (g))), (2, .int (nI (3)))]) (st' := [.int (nI (g)), .ref 25, .ref 1, .ref 30]) (w2 := compW T S P U O1 ((chB S B.li B.gw B.un B.lc)) Q C R tl rf) rfl ?_
  refine ev_callVN (Yc := mX0_harmBy) [30, 31, 32, 33, 34, 1, 2, 3, 4, 5, 6, 7, 8, 25, 26, 27, 28, 29] dX6_group_131 tn_612 kX0_harmBy (m_X0_harmBy (chB S B.li B.gw B.un B.lc) S O1 g hS hK1 (by omega) rfl) rfl (st := []) rfl rfl rfl (by decide) hw_comp__30_1_25 (by decide) (Nat.le_of_ble_eq_true rfl) (Nat.le_refl _) (Nat.le_refl _) (fun r w' h => by obtain ⟨-, rfl⟩ := h; exact Nat.le_of_ble_eq_true rfl) ?_
  rintro _ _ ⟨rfl, rfl⟩
  refine ev_eq (lv' := [(0, .ref 0), (1, .int (nI (g))), (2, .int (nI (3)))]) (st' := [.int (zI (harmZ S g))]) (w' := compW T S P U O1 ((chB S B.li B.gw B.un B.lc)) Q C R tl rf) rfl rfl xp_comp__30_1_25 ?_
  exact ev_iret dX6_group_134 rfl (Nat.le_refl 49) (Nat.le_refl _) (Nat.le_refl _) ⟨rfl, _, _, _, _, _, _, rfl, hQ, rfl, rfl⟩
theorem bX6_group_135_143 {l : Launch} {E : XE} : Snd l E mX6_group 135 143 (xs [x_aload 0, x_get 7 4, x_get 1 1, x_iload 1]) := Snd.cons (snd_aload_n (i := 0) dX6_group_135 rfl) (Snd.cons (snd_get (ci := 7) (k := 4) dX6_group_136 rfl inX6 (by decide) tw_211) (Snd.cons (snd_getN (ci := 1) (k := 1) dX6_group_139 rfl inX0 (by decide) tn_105) (Snd.cons (snd_iload_n (i := 1) dX6_group_142 rfl) Snd.nil)))
set_option maxHeartbeats 4000000 in
set_option maxRecDepth 100000 in
theorem p_group_w4 {l : Launch} {E : XE} (T : TopN) (S P U : SaleN) (O : OutN) (B : BillN) (Q : SeaN) (C : ScrN) (R : PrtN) (tl rf : Nat → Nat) (g : Nat) (hS : SaleOK S) (hQ : Q.fd < 2147483648) (hg : g < 32) : MetE l E mX6_group (5) 0 0 [.ref 0, .int (nI (g)), .int (nI (4))] (compW T S P U O B Q C R tl rf) (CP T S P (C.lt) (C.sz) tl rf (some (.int (zI (totZ (paidZ S) g 5))))) := by
  refine MetE.of (by decide +kernel) (Nat.le_of_ble_eq_true rfl) ?_
  have hca := hS.1
  have hpw := pow_ca hS
  have hac := ac_lt hS
  obtain ⟨-, -, -, -, -, -, -, -, hk1, hk2, -⟩ := wK_spec hS (bgTo S.ow g 5)
  refine ev_eq (lv' := [(0, .ref 0), (1, .int (nI (g))), (2, .int (nI (4)))]) (st' := []) (w' := compW T S P U O B Q C R tl rf) rfl rfl rfl ?_
  refine ev_b bX6_group_0_1 (lv' := [(0, .ref 0), (1, .int (nI (g))), (2, .int (nI (4)))]) (st' := [.int (nI (g))]) (w2 := compW T S P U O B Q C R tl rf) rfl ?_
  refine ev_if_ge_n (tgt := 11) (by omega) dX6_group_1 (by decide) (fun h1 => ?_) (fun h1 => (by exfalso; omega))
  refine ev_b bX6_group_11_14 (lv' := [(0, .ref 0), (1, .int (nI (g))), (2, .int (nI (4)))]) (st' := [.int (nI (32)), .int (nI (g))]) (w2 := compW T S P U O B Q C R tl rf) rfl ?_
  refine ev_icmp_lt_n (tgt := 24) (by omega) (by decide) dX6_group_14 (by decide) (fun h14 => ?_) (fun h14 => (by exfalso; omega))
  refine ev_b bX6_group_24_29 (lv' := [(0, .ref 0), (1, .int (nI (g))), (2, .int (nI (4)))]) (st' := [.ref 1, .ref 0]) (w2 := compW T S P U O B Q C R tl rf) rfl ?_
  refine ev_callV (Yc := mX6_charge) (rng 0 49) dX6_group_29 tw_588 kX6_charge (m_X6_charge_S T S P U O B Q C R tl rf hS) rfl (st := []) rfl rfl rfl (by decide) (same_hw (compW T S P U O B Q C R tl rf)) (by decide) (Nat.le_of_ble_eq_true rfl) (Nat.le_refl _) (Nat.le_refl _) (fun r w' h => by obtain ⟨-, O', rfl, -⟩ := h; exact Nat.le_refl 49) ?_
  rintro _ _ ⟨rfl, O1, rfl, hK1⟩
  refine ev_eq (lv' := [(0, .ref 0), (1, .int (nI (g))), (2, .int (nI (4)))]) (st' := []) (w' := compW T S P U O1 ((chB S B.li B.gw B.un B.lc)) Q C R tl rf) rfl rfl (same_xp (compW T S P U O B Q C R tl rf) (compW T S P U O1 ((chB S B.li B.gw B.un B.lc)) Q C R tl rf) rfl) ?_
  refine ev_b bX6_group_32_33 (lv' := [(0, .ref 0), (1, .int (nI (g))), (2, .int (nI (4)))]) (st' := [.int (nI (4))]) (w2 := compW T S P U O1 ((chB S B.li B.gw B.un B.lc)) Q C R tl rf) rfl ?_
  refine ev_tableIn (off := 102) (tgt := 135) dX6_group_33 (by decide) (by decide) (by decide) (by decide) ?_
  refine ev_b bX6_group_135_143 (lv' := [(0, .ref 0), (1, .int (nI (g))), (2, .int (nI (4)))]) (st' := [.int (nI (g)), .ref 32]) (w2 := compW T S P U O1 ((chB S B.li B.gw B.un B.lc)) Q C R tl rf) rfl ?_
  refine ev_callSN (Yc := mX0_total) [32] dX6_group_143 tn_611 kX0_total (m_X0_total (paidZ S) g (by omega)) rfl (st := []) rfl (by decide) rfl (by decide) (Nat.le_of_ble_eq_true rfl) (Nat.le_refl _) (Nat.le_refl _) (fun r w' h => by obtain ⟨-, rfl⟩ := h; exact Nat.le_of_ble_eq_true rfl) ?_
  rintro _ _ ⟨rfl, rfl⟩
  refine ev_eq (lv' := [(0, .ref 0), (1, .int (nI (g))), (2, .int (nI (4)))]) (st' := [.int (zI (totZ (paidZ S) g 5))]) (w' := compW T S P U O1 ((chB S B.li B.gw B.un B.lc)) Q C R tl rf) rfl rfl rfl ?_
  exact ev_iret dX6_group_146 rfl (Nat.le_refl 49) (Nat.le_refl _) (Nat.le_refl _) ⟨rfl, _, _, _, _, _, _, rfl, hQ, rfl, rfl⟩
