theorem hw_comp__9_1 {x0 : TopN} {x1 : SaleN} {x2 : SaleN} {x3 : SaleN} {x4 : OutN} {x5 : BillN} {x6 : SeaN} {x7 : ScrN} {x8 : PrtN} {x9 : Nat → Nat} {x10 : Nat → Nat} : ([9, 10, 11, 12, 13, 14, 15, 16, 1, 2, 3, 4, 5, 6, 7, 8] : List Nat).map (fun i => (compW x0 x1 x2 x3 x4 x5 x6 x7 x8 x9 x10)[i]?) = (saleW 0 x2 ++ saleW 8 x1).map (fun e => some (xr ([9, 10, 11, 12, 13, 14, 15, 16, 1, 2, 3, 4, 5, 6, 7, 8] : List Nat) (compW x0 x1 x2 x3 x4 x5 x6 x7 x8 x9 x10).length e)) := rfl
theorem xp_comp__9_1 {x0 : TopN} {x1 : SaleN} {x2 : SaleN} {x3 : SaleN} {x4 : OutN} {x5 : BillN} {x6 : SeaN} {x7 : ScrN} {x8 : PrtN} {x9 : Nat → Nat} {x10 : Nat → Nat} {y0 : SaleN} {y1 : SaleN} : xput ([9, 10, 11, 12, 13, 14, 15, 16, 1, 2, 3, 4, 5, 6, 7, 8] : List Nat) (compW x0 x1 x2 x3 x4 x5 x6 x7 x8 x9 x10).length (compW x0 x1 x2 x3 x4 x5 x6 x7 x8 x9 x10) ([9, 10, 11, 12, 13, 14, 15, 16, 1, 2, 3, 4, 5, 6, 7, 8] : List Nat) (saleW 0 y0 ++ saleW 8 y1) = compW x0 y1 y0 x3 x4 x5 x6 x7 x8 x9 x10 := by
  have e0 : xput ([9, 10, 11, 12, 13, 14, 15, 16, 1, 2, 3, 4, 5, 6, 7, 8] : List Nat) (compW x0 x1 x2 x3 x4 x5 x6 x7 x8 x9 x10).length (compW x0 x1 x2 x3 x4 x5 x6 x7 x8 x9 x10) ([9, 10, 11, 12, 13, 14, 15, 16] : List Nat) (saleW 0 y0) = compW x0 x1 y0 x3 x4 x5 x6 x7 x8 x9 x10 := xput_blk (topW 0 x0 ++ (saleW 1 x1)) (saleW 9 x2) (saleW 17 x3 ++ (outW 25 x4 ++ (billW 30 x5 ++ (seaW 35 x6 ++ (scrW 38 x7 ++ (prtW 45 x8 ++ (row5 47 x9 ++ (row7 48 x10)))))))) (saleW 0 y0) rfl
  have e1 : xput ([9, 10, 11, 12, 13, 14, 15, 16, 1, 2, 3, 4, 5, 6, 7, 8] : List Nat) (compW x0 x1 x2 x3 x4 x5 x6 x7 x8 x9 x10).length (compW x0 x1 y0 x3 x4 x5 x6 x7 x8 x9 x10) ([1, 2, 3, 4, 5, 6, 7, 8] : List Nat) (saleW 8 y1) = compW x0 y1 y0 x3 x4 x5 x6 x7 x8 x9 x10 := xput_blk (topW 0 x0) (saleW 1 x1) (saleW 9 y0 ++ (saleW 17 x3 ++ (outW 25 x4 ++ (billW 30 x5 ++ (seaW 35 x6 ++ (scrW 38 x7 ++ (prtW 45 x8 ++ (row5 47 x9 ++ (row7 48 x10))))))))) (saleW 8 y1) rfl
  refine (xput_app ([9, 10, 11, 12, 13, 14, 15, 16] : List Nat) ([1, 2, 3, 4, 5, 6, 7, 8] : List Nat) _ (saleW 0 y0) (saleW 8 y1) rfl).trans ?_
  exact (congrArg (fun t => xput ([9, 10, 11, 12, 13, 14, 15, 16, 1, 2, 3, 4, 5, 6, 7, 8] : List Nat) (compW x0 x1 x2 x3 x4 x5 x6 x7 x8 x9 x10).length t ([1, 2, 3, 4, 5, 6, 7, 8] : List Nat) (saleW 8 y1)) e0).trans e1
theorem bX6_image_0_8 {l : Launch} {E : XE} : Snd l E mX6_image 0 8 (xs [x_aload 0, x_get 7 1, x_aload 0, x_get 7 0]) := Snd.cons (snd_aload_n (i := 0) dX6_image_0 rfl) (Snd.cons (snd_get (ci := 7) (k := 1) dX6_image_1 rfl inX6 (by decide) tw_208) (Snd.cons (snd_aload_n (i := 0) dX6_image_4 rfl) (Snd.cons (snd_get (ci := 7) (k := 0) dX6_image_5 rfl inX6 (by decide) tw_207) Snd.nil)))
theorem bX6_image_11_13 {l : Launch} {E : XE} : Snd l E mX6_image 11 13 (xs [x_aload 0, x_push (.int (nI 1))]) := Snd.cons (snd_aload_n (i := 0) dX6_image_11 rfl) (Snd.cons (snd_iconst (v := nI 1) dX6_image_12 (by decide)) Snd.nil)
theorem bX6_image_16_23 {l : Launch} {E : XE} : Snd l E mX6_image 16 23 (xs [x_aload 0, x_get 7 0, x_get 4 7]) := Snd.cons (snd_aload_n (i := 0) dX6_image_16 rfl) (Snd.cons (snd_get (ci := 7) (k := 0) dX6_image_17 rfl inX6 (by decide) tw_207) (Snd.cons (snd_getN (ci := 4) (k := 7) dX6_image_20 rfl inX3 (by decide) tn_44) Snd.nil))
set_option maxHeartbeats 4000000 in
set_option maxRecDepth 100000 in
theorem p_image_ok {l : Launch} {E : XE} (T : TopN) (S P U : SaleN) (O : OutN) (B : BillN) (Q : SeaN) (C : ScrN) (R : PrtN) (tl rf : Nat → Nat)  (hS : SaleOK S) (hQ : Q.fd < 2147483648)  : MetE l E mX6_image (2) 0 0 [.ref 0] (compW T S P U O B Q C R tl rf) (CP ((T.tc, 1) : TopN) S S (C.lt) (C.sz) tl rf (some (.int (nI (S.ca))))) := by
  refine MetE.of (by decide +kernel) (Nat.le_of_ble_eq_true rfl) ?_
  have hca := hS.1
  have hpw := pow_ca hS
  have hac := ac_lt hS
  
  refine ev_eq (lv' := [(0, .ref 0)]) (st' := []) (w' := compW T S P U O B Q C R tl rf) rfl rfl rfl ?_
  refine ev_b bX6_image_0_8 (lv' := [(0, .ref 0)]) (st' := [.ref 1, .ref 9]) (w2 := compW T S P U O B Q C R tl rf) rfl ?_
  refine ev_callVN (Yc := mX3_takeFrom) [9, 10, 11, 12, 13, 14, 15, 16, 1, 2, 3, 4, 5, 6, 7, 8] dX6_image_8 tn_372 kX3_takeFrom (m_X3_takeFrom P S) rfl (st := []) rfl rfl rfl (by decide) hw_comp__9_1 (by decide) (Nat.le_of_ble_eq_true rfl) (Nat.le_refl _) (Nat.le_refl _) (fun r w' h => by obtain ⟨-, rfl⟩ := h; exact Nat.le_of_ble_eq_true rfl) ?_
  rintro _ _ ⟨rfl, rfl⟩
  refine ev_eq (lv' := [(0, .ref 0)]) (st' := []) (w' := compW T S S U O B Q C R tl rf) rfl rfl xp_comp__9_1 ?_
  refine ev_b bX6_image_11_13 (lv' := [(0, .ref 0)]) (st' := [.int (nI (1)), .ref 0]) (w2 := compW T S S U O B Q C R tl rf) rfl ?_
  refine snd_put (ci := 7) (k := 11) (a := 0) dX6_image_13 rfl inX6 tyX6_ok nmX6 (by decide) tw_218 rfl rfl (Nat.le_of_ble_eq_true rfl) (fun _ => rfl) (fun _ => rfl) ?_
  refine ev_eq (w' := compW ((T.tc, 1) : TopN) S S U O B Q C R tl rf) rfl rfl rfl ?_
  refine ev_b bX6_image_16_23 (lv' := [(0, .ref 0)]) (st' := [.int (nI (S.ca))]) (w2 := compW ((T.tc, 1) : TopN) S S U O B Q C R tl rf) rfl ?_
  exact ev_iret dX6_image_23 rfl (Nat.le_refl 49) (Nat.le_refl _) (Nat.le_refl _) ⟨rfl, _, _, _, _, _, _, rfl, hQ, rfl, rfl⟩
theorem bX6_on_0_4 {l : Launch} {E : XE} : Snd l E mX6_on 0 4 (xs [x_aload 0, x_get 7 11]) := Snd.cons (snd_aload_n (i := 0) dX6_on_0 rfl) (Snd.cons (snd_get (ci := 7) (k := 11) dX6_on_1 rfl inX6 (by decide) tw_218) Snd.nil)
theorem bX6_on_7_10 {l : Launch} {E : XE} : Snd l E mX6_on 7 10 (xs [x_aload 0, x_push (.int (-3))]) := Snd.cons (snd_aload_n (i := 0) dX6_on_7 rfl) (Snd.cons (snd_bipush (v := -3) dX6_on_8 (by decide)) Snd.nil)
set_option maxHeartbeats 4000000 in
set_option maxRecDepth 100000 in
theorem p_on_3 {l : Launch} {E : XE} (T : TopN) (S P U : SaleN) (O : OutN) (B : BillN) (Q : SeaN) (C : ScrN) (R : PrtN) (tl rf : Nat → Nat)  (hS : SaleOK S) (hQ : Q.fd < 2147483648) (hh : T.hp = 0) : MetE l E mX6_on (1) 0 0 [.ref 0] (compW T S P U O B Q C R tl rf) (CP T S P (C.lt) (C.sz) tl (up rf 3 (rf 3 + 1)) (some (.int (-3)))) := by
  refine MetE.of (by decide +kernel) (Nat.le_of_ble_eq_true rfl) ?_
  have hca := hS.1
  have hpw := pow_ca hS
  have hac := ac_lt hS
  
  refine ev_eq (lv' := [(0, .ref 0)]) (st' := []) (w' := compW T S P U O B Q C R tl rf) rfl rfl rfl ?_
  refine ev_b bX6_on_0_4 (lv' := [(0, .ref 0)]) (st' := [.int (nI (T.hp))]) (w2 := compW T S P U O B Q C R tl rf) rfl ?_
  refine ev_if_ne_n (tgt := 14) (by omega) dX6_on_4 (by decide) (fun h4 => (by exfalso; omega)) (fun h4 => ?_)
  refine ev_b bX6_on_7_10 (lv' := [(0, .ref 0)]) (st' := [.int (-3), .ref 0]) (w2 := compW T S P U O B Q C R tl rf) rfl ?_
  refine ev_callV (Yc := mX6_refuse) (rng 0 49) dX6_on_10 tw_248 kX6_refuse (m_X6_refuse_3 T S P U O B Q C R tl rf) rfl (st := []) rfl rfl rfl (by decide) comp_hw (by decide) (Nat.le_of_ble_eq_true rfl) (Nat.le_refl _) (Nat.le_refl _) (fun r w' h => by obtain ⟨-, rfl⟩ := h; exact Nat.le_of_ble_eq_true rfl) ?_
  rintro _ _ ⟨rfl, rfl⟩
  refine ev_eq (lv' := [(0, .ref 0)]) (st' := [.int (-3)]) (w' := compW T S P U O B Q C R tl ((up rf 3 (rf 3 + 1)))) rfl rfl comp_xp ?_
  exact ev_iret dX6_on_13 rfl (Nat.le_refl 49) (Nat.le_refl _) (Nat.le_refl _) ⟨rfl, _, _, _, _, _, _, rfl, hQ, rfl, rfl⟩
theorem hw_comp__1_9 {x0 : TopN} {x1 : SaleN} {x2 : SaleN} {x3 : SaleN} {x4 : OutN} {x5 : BillN} {x6 : SeaN} {x7 : ScrN} {x8 : PrtN} {x9 : Nat → Nat} {x10 : Nat → Nat} : ([1, 2, 3, 4, 5, 6, 7, 8, 9, 10, 11, 12, 13, 14, 15, 16] : List Nat).map (fun i => (compW x0 x1 x2 x3 x4 x5 x6 x7 x8 x9 x10)[i]?) = (saleW 0 x1 ++ saleW 8 x2).map (fun e => some (xr ([1, 2, 3, 4, 5, 6, 7, 8, 9, 10, 11, 12, 13, 14, 15, 16] : List Nat) (compW x0 x1 x2 x3 x4 x5 x6 x7 x8 x9 x10).length e)) := rfl
theorem xp_comp__1_9 {x0 : TopN} {x1 : SaleN} {x2 : SaleN} {x3 : SaleN} {x4 : OutN} {x5 : BillN} {x6 : SeaN} {x7 : ScrN} {x8 : PrtN} {x9 : Nat → Nat} {x10 : Nat → Nat} {y0 : SaleN} {y1 : SaleN} : xput ([1, 2, 3, 4, 5, 6, 7, 8, 9, 10, 11, 12, 13, 14, 15, 16] : List Nat) (compW x0 x1 x2 x3 x4 x5 x6 x7 x8 x9 x10).length (compW x0 x1 x2 x3 x4 x5 x6 x7 x8 x9 x10) ([1, 2, 3, 4, 5, 6, 7, 8, 9, 10, 11, 12, 13, 14, 15, 16] : List Nat) (saleW 0 y0 ++ saleW 8 y1) = compW x0 y0 y1 x3 x4 x5 x6 x7 x8 x9 x10 := by
  have e0 : xput ([1, 2, 3, 4, 5, 6, 7, 8, 9, 10, 11, 12, 13, 14, 15, 16] : List Nat) (compW x0 x1 x2 x3 x4 x5 x6 x7 x8 x9 x10).length (compW x0 x1 x2 x3 x4 x5 x6 x7 x8 x9 x10) ([1, 2, 3, 4, 5, 6, 7, 8] : List Nat) (saleW 0 y0) = compW x0 y0 x2 x3 x4 x5 x6 x7 x8 x9 x10 := xput_blk (topW 0 x0) (saleW 1 x1) (saleW 9 x2 ++ (saleW 17 x3 ++ (outW 25 x4 ++ (billW 30 x5 ++ (seaW 35 x6 ++ (scrW 38 x7 ++ (prtW 45 x8 ++ (row5 47 x9 ++ (row7 48 x10))))))))) (saleW 0 y0) rfl
  have e1 : xput ([1, 2, 3, 4, 5, 6, 7, 8, 9, 10, 11, 12, 13, 14, 15, 16] : List Nat) (compW x0 x1 x2 x3 x4 x5 x6 x7 x8 x9 x10).length (compW x0 y0 x2 x3 x4 x5 x6 x7 x8 x9 x10) ([9, 10, 11, 12, 13, 14, 15, 16] : List Nat) (saleW 8 y1) = compW x0 y0 y1 x3 x4 x5 x6 x7 x8 x9 x10 := xput_blk (topW 0 x0 ++ (saleW 1 y0)) (saleW 9 x2) (saleW 17 x3 ++ (outW 25 x4 ++ (billW 30 x5 ++ (seaW 35 x6 ++ (scrW 38 x7 ++ (prtW 45 x8 ++ (row5 47 x9 ++ (row7 48 x10)))))))) (saleW 8 y1) rfl
  refine (xput_app ([1, 2, 3, 4, 5, 6, 7, 8] : List Nat) ([9, 10, 11, 12, 13, 14, 15, 16] : List Nat) _ (saleW 0 y0) (saleW 8 y1) rfl).trans ?_
  exact (congrArg (fun t => xput ([1, 2, 3, 4, 5, 6, 7, 8, 9, 10, 11, 12, 13, 14, 15, 16] : List Nat) (compW x0 x1 x2 x3 x4 x5 x6 x7 x8 x9 x10).length t ([9, 10, 11, 12, 13, 14, 15, 16] : List Nat) (saleW 8 y1)) e0).trans e1
theorem bX6_on_14_22 {l : Launch} {E : XE} : Snd l E mX6_on 14 22 (xs [x_aload 0, x_get 7 0, x_aload 0, x_get 7 1]) := Snd.cons (snd_aload_n (i := 0) dX6_on_14 rfl) (Snd.cons (snd_get (ci := 7) (k := 0) dX6_on_15 rfl inX6 (by decide) tw_207) (Snd.cons (snd_aload_n (i := 0) dX6_on_18 rfl) (Snd.cons (snd_get (ci := 7) (k := 1) dX6_on_19 rfl inX6 (by decide) tw_208) Snd.nil)))
theorem bX6_on_25_32 {l : Launch} {E : XE} : Snd l E mX6_on 25 32 (xs [x_aload 0, x_get 7 0, x_get 4 7]) := Snd.cons (snd_aload_n (i := 0) dX6_on_25 rfl) (Snd.cons (snd_get (ci := 7) (k := 0) dX6_on_26 rfl inX6 (by decide) tw_207) (Snd.cons (snd_getN (ci := 4) (k := 7) dX6_on_29 rfl inX3 (by decide) tn_44) Snd.nil))
set_option maxHeartbeats 4000000 in
set_option maxRecDepth 100000 in
theorem p_on_ok {l : Launch} {E : XE} (T : TopN) (S P U : SaleN) (O : OutN) (B : BillN) (Q : SeaN) (C : ScrN) (R : PrtN) (tl rf : Nat → Nat)  (hS : SaleOK S) (hQ : Q.fd < 2147483648) (hh : T.hp = 1) : MetE l E mX6_on (2) 0 0 [.ref 0] (compW T S P U O B Q C R tl rf) (CP T P P (C.lt) (C.sz) tl rf (some (.int (nI (P.ca))))) := by
  refine MetE.of (by decide +kernel) (Nat.le_of_ble_eq_true rfl) ?_
  have hca := hS.1
  have hpw := pow_ca hS
  have hac := ac_lt hS
  
  refine ev_eq (lv' := [(0, .ref 0)]) (st' := []) (w' := compW T S P U O B Q C R tl rf) rfl rfl rfl ?_
  refine ev_b bX6_on_0_4 (lv' := [(0, .ref 0)]) (st' := [.int (nI (T.hp))]) (w2 := compW T S P U O B Q C R tl rf) rfl ?_
  refine ev_if_ne_n (tgt := 14) (by omega) dX6_on_4 (by decide) (fun h4 => ?_) (fun h4 => (by exfalso; omega))
  refine ev_b bX6_on_14_22 (lv' := [(0, .ref 0)]) (st' := [.ref 9, .ref 1]) (w2 := compW T S P U O B Q C R tl rf) rfl ?_
  refine ev_callVN (Yc := mX3_takeFrom) [1, 2, 3, 4, 5, 6, 7, 8, 9, 10, 11, 12, 13, 14, 15, 16] dX6_on_22 tn_372 kX3_takeFrom (m_X3_takeFrom S P) rfl (st := []) rfl rfl rfl (by decide) hw_comp__1_9 (by decide) (Nat.le_of_ble_eq_true rfl) (Nat.le_refl _) (Nat.le_refl _) (fun r w' h => by obtain ⟨-, rfl⟩ := h; exact Nat.le_of_ble_eq_true rfl) ?_
  rintro _ _ ⟨rfl, rfl⟩
  refine ev_eq (lv' := [(0, .ref 0)]) (st' := []) (w' := compW T P P U O B Q C R tl rf) rfl rfl xp_comp__1_9 ?_
  refine ev_b bX6_on_25_32 (lv' := [(0, .ref 0)]) (st' := [.int (nI (P.ca))]) (w2 := compW T P P U O B Q C R tl rf) rfl ?_
  exact ev_iret dX6_on_32 rfl (Nat.le_refl 49) (Nat.le_refl _) (Nat.le_refl _) ⟨rfl, _, _, _, _, _, _, rfl, hQ, rfl, rfl⟩
theorem bX6_rank_0_1 {l : Launch} {E : XE} : Snd l E mX6_rank 0 1 (xs [x_iload 1]) := Snd.cons (snd_iload_n (i := 1) dX6_rank_0 rfl) Snd.nil
theorem bX6_rank_4_7 {l : Launch} {E : XE} : Snd l E mX6_rank 4 7 (xs [x_aload 0, x_push (.int (-4))]) := Snd.cons (snd_aload_n (i := 0) dX6_rank_4 rfl) (Snd.cons (snd_bipush (v := -4) dX6_rank_5 (by decide)) Snd.nil)
set_option maxHeartbeats 4000000 in
set_option maxRecDepth 100000 in
theorem p_rank_4 {l : Launch} {E : XE} (T : TopN) (S P U : SaleN) (O : OutN) (B : BillN) (Q : SeaN) (C : ScrN) (R : PrtN) (tl rf : Nat → Nat) (z1 z2 : Int) (hS : SaleOK S) (hQ : Q.fd < 2147483648) (rz1 : -2147483648 ≤ z1 ∧ z1 < 2147483648) (rz2 : -2147483648 ≤ z2 ∧ z2 < 2147483648) (h : z1 < 0) : MetE l E mX6_rank (1) 0 0 [.ref 0, .int (zI (z1)), .int (zI (z2))] (compW T S P U O B Q C R tl rf) (CP T S P (C.lt) (C.sz) tl (up rf 4 (rf 4 + 1)) (some (.int (-4)))) := by
  refine MetE.of (by decide +kernel) (Nat.le_of_ble_eq_true rfl) ?_
  have hca := hS.1
  have hpw := pow_ca hS
  have hac := ac_lt hS
  
  refine ev_eq (lv' := [(0, .ref 0), (1, .int (zI (z1))), (2, .int (zI (z2)))]) (st' := []) (w' := compW T S P U O B Q C R tl rf) rfl rfl rfl ?_
  refine ev_b bX6_rank_0_1 (lv' := [(0, .ref 0), (1, .int (zI (z1))), (2, .int (zI (z2)))]) (st' := [.int (zI (z1))]) (w2 := compW T S P U O B Q C R tl rf) rfl ?_
  refine ev_if_ge_z (tgt := 11) (by constructor <;> omega) dX6_rank_1 (by decide) (fun h1 => (by exfalso; omega)) (fun h1 => ?_)
  refine ev_b bX6_rank_4_7 (lv' := [(0, .ref 0), (1, .int (zI (z1))), (2, .int (zI (z2)))]) (st' := [.int (-4), .ref 0]) (w2 := compW T S P U O B Q C R tl rf) rfl ?_
  refine ev_callV (Yc := mX6_refuse) (rng 0 49) dX6_rank_7 tw_248 kX6_refuse (m_X6_refuse_4 T S P U O B Q C R tl rf) rfl (st := []) rfl rfl rfl (by decide) comp_hw (by decide) (Nat.le_of_ble_eq_true rfl) (Nat.le_refl _) (Nat.le_refl _) (fun r w' h => by obtain ⟨-, rfl⟩ := h; exact Nat.le_of_ble_eq_true rfl) ?_
  rintro _ _ ⟨rfl, rfl⟩
  refine ev_eq (lv' := [(0, .ref 0), (1, .int (zI (z1))), (2, .int (zI (z2)))]) (st' := [.int (-4)]) (w' := compW T S P U O B Q C R tl ((up rf 4 (rf 4 + 1)))) rfl rfl comp_xp ?_
  exact ev_iret dX6_rank_10 rfl (Nat.le_refl 49) (Nat.le_refl _) (Nat.le_refl _) ⟨rfl, _, _, _, _, _, _, rfl, hQ, rfl, rfl⟩
theorem bX6_rank_11_12 {l : Launch} {E : XE} : Snd l E mX6_rank 11 12 (xs [x_iload 2]) := Snd.cons (snd_iload_n (i := 2) dX6_rank_11 rfl) Snd.nil
theorem bX6_rank_18_21 {l : Launch} {E : XE} : Snd l E mX6_rank 18 21 (xs [x_aload 0, x_push (.int (-2))]) := Snd.cons (snd_aload_n (i := 0) dX6_rank_18 rfl) (Snd.cons (snd_bipush (v := -2) dX6_rank_19 (by decide)) Snd.nil)
set_option maxHeartbeats 4000000 in
set_option maxRecDepth 100000 in
theorem p_rank_2 {l : Launch} {E : XE} (T : TopN) (S P U : SaleN) (O : OutN) (B : BillN) (Q : SeaN) (C : ScrN) (R : PrtN) (tl rf : Nat → Nat) (z1 z2 : Int) (hS : SaleOK S) (hQ : Q.fd < 2147483648) (rz1 : -2147483648 ≤ z1 ∧ z1 < 2147483648) (rz2 : -2147483648 ≤ z2 ∧ z2 < 2147483648) (h : 0 ≤ z1) (h2 : ¬ (z2 = 0 ∨ z2 = 1)) : MetE l E mX6_rank (1) 0 0 [.ref 0, .int (zI (z1)), .int (zI (z2))] (compW T S P U O B Q C R tl rf) (CP T S P (C.lt) (C.sz) tl (up rf 2 (rf 2 + 1)) (some (.int (-2)))) := by
  refine MetE.of (by decide +kernel) (Nat.le_of_ble_eq_true rfl) ?_
  have hca := hS.1
  have hpw := pow_ca hS
  have hac := ac_lt hS
  
  refine ev_eq (lv' := [(0, .ref 0), (1, .int (zI (z1))), (2, .int (zI (z2)))]) (st' := []) (w' := compW T S P U O B Q C R tl rf) rfl rfl rfl ?_
  refine ev_b bX6_rank_0_1 (lv' := [(0, .ref 0), (1, .int (zI (z1))), (2, .int (zI (z2)))]) (st' := [.int (zI (z1))]) (w2 := compW T S P U O B Q C R tl rf) rfl ?_
  refine ev_if_ge_z (tgt := 11) (by constructor <;> omega) dX6_rank_1 (by decide) (fun h1 => ?_) (fun h1 => (by exfalso; omega))
  refine ev_b bX6_rank_11_12 (lv' := [(0, .ref 0), (1, .int (zI (z1))), (2, .int (zI (z2)))]) (st' := [.int (zI (z2))]) (w2 := compW T S P U O B Q C R tl rf) rfl ?_
  refine ev_callS (Yc := mX6_isEither) [] dX6_rank_12 tw_667 kX6_isEither (m_X6_isEither_z z2 rz2) rfl (st := []) rfl (by decide) rfl (by decide) (Nat.le_of_ble_eq_true rfl) (Nat.le_refl _) (Nat.le_refl _) (fun r w' h => by obtain ⟨-, rfl⟩ := h; exact Nat.le_of_ble_eq_true rfl) ?_
  rintro _ _ ⟨rfl, rfl⟩
  refine ev_eq (lv' := [(0, .ref 0), (1, .int (zI (z1))), (2, .int (zI (z2)))]) (st' := [.int (nI (b01 (z2 = 0 ∨ z2 = 1)))]) (w' := compW T S P U O B Q C R tl rf) rfl rfl rfl ?_
  refine ev_ifne_b (tgt := 25) dX6_rank_15 (by decide) (fun h15 => (by exfalso; omega)) (fun h15 => ?_)
  refine ev_b bX6_rank_18_21 (lv' := [(0, .ref 0), (1, .int (zI (z1))), (2, .int (zI (z2)))]) (st' := [.int (-2), .ref 0]) (w2 := compW T S P U O B Q C R tl rf) rfl ?_
  refine ev_callV (Yc := mX6_refuse) (rng 0 49) dX6_rank_21 tw_248 kX6_refuse (m_X6_refuse_2 T S P U O B Q C R tl rf) rfl (st := []) rfl rfl rfl (by decide) comp_hw (by decide) (Nat.le_of_ble_eq_true rfl) (Nat.le_refl _) (Nat.le_refl _) (fun r w' h => by obtain ⟨-, rfl⟩ := h; exact Nat.le_of_ble_eq_true rfl) ?_
  rintro _ _ ⟨rfl, rfl⟩
  refine ev_eq (lv' := [(0, .ref 0), (1, .int (zI (z1))), (2, .int (zI (z2)))]) (st' := [.int (-2)]) (w' := compW T S P U O B Q C R tl ((up rf 2 (rf 2 + 1)))) rfl rfl comp_xp ?_
  exact ev_iret dX6_rank_24 rfl (Nat.le_refl 49) (Nat.le_refl _) (Nat.le_refl _) ⟨rfl, _, _, _, _, _, _, rfl, hQ, rfl, rfl⟩
