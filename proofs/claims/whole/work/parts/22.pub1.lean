theorem bX4_isFull_0_6 {l : Launch} {E : XE} : Snd l E mX4_isFull 0 6 (xs [x_aload 0, x_get 5 6, x_push (.int (nI 96))]) := Snd.cons (snd_aload_n (i := 0) dX4_isFull_0 rfl) (Snd.cons (snd_get (ci := 5) (k := 6) dX4_isFull_1 rfl inX4 (by decide) tw_166) (Snd.cons (snd_bipush (v := nI 96) dX4_isFull_4 (by decide)) Snd.nil))
theorem bX4_isFull_13_14 {l : Launch} {E : XE} : Snd l E mX4_isFull 13 14 (xs [x_push (.int (nI 0))]) := Snd.cons (snd_iconst (v := nI 0) dX4_isFull_13 (by decide)) Snd.nil
theorem bX4_isFull_9_14 {l : Launch} {E : XE} : Snd l E mX4_isFull 9 14 (xs [x_push (.int (nI 1)), x_id]) := Snd.cons (snd_iconst (v := nI 1) dX4_isFull_9 (by decide)) (Snd.cons (snd_goto (tgt := 14) dX4_isFull_10 (by decide)) Snd.nil)
set_option maxHeartbeats 4000000 in
set_option maxRecDepth 100000 in
theorem m_X4_isFull {l : Launch} {E : XE} (C : ScrN) (hc : C.sz ≤ 96) : MetE l E mX4_isFull (0) 0 0 [.ref 0] (scrW 0 C) (fun r w' => r = some (.int (nI (b01 (96 ≤ C.sz)))) ∧ w' = scrW 0 C) := by
  refine MetE.of (by decide +kernel) (Nat.le_of_ble_eq_true rfl) ?_
  refine ev_eq (lv' := [(0, .ref 0)]) (st' := []) (w' := scrW 0 C) rfl rfl rfl ?_
  refine ev_b bX4_isFull_0_6 (lv' := [(0, .ref 0)]) (st' := [.int (nI (96)), .int (nI (C.sz))]) (w2 := scrW 0 C) rfl ?_
  refine ev_icmp_lt_n (tgt := 13) (by omega) (by decide) dX4_isFull_6 (by decide) (fun h6 => ?_) (fun h6 => ?_)
  · skip
    refine ev_b bX4_isFull_13_14 (lv' := [(0, .ref 0)]) (st' := [.int (nI (0))]) (w2 := scrW 0 C) rfl ?_
    exact ev_zret dX4_isFull_14 rfl rfl (Nat.le_of_ble_eq_true rfl) (Nat.le_refl _) (Nat.le_refl _) ⟨(congrArg (fun t => some (Value.int (nI t))) (b01_f (by omega)).symm), rfl⟩
  · skip
    refine ev_b bX4_isFull_9_14 (lv' := [(0, .ref 0)]) (st' := [.int (nI (1))]) (w2 := scrW 0 C) rfl ?_
    exact ev_zret dX4_isFull_14 rfl rfl (Nat.le_of_ble_eq_true rfl) (Nat.le_refl _) (Nat.le_refl _) ⟨(congrArg (fun t => some (Value.int (nI t))) (b01_t (by omega)).symm), rfl⟩
theorem bX4_append_0_1 {l : Launch} {E : XE} : Snd l E mX4_append 0 1 (xs [x_aload 0]) := Snd.cons (snd_aload_n (i := 0) dX4_append_0 rfl) Snd.nil
theorem bX4_append_7_16 {l : Launch} {E : XE} : Snd l E mX4_append 7 16 (xs [x_aload 0, x_get 5 0, x_aload 0, x_get 5 6, x_iload 1]) := Snd.cons (snd_aload_n (i := 0) dX4_append_7 rfl) (Snd.cons (snd_get (ci := 5) (k := 0) dX4_append_8 rfl inX4 (by decide) tw_160) (Snd.cons (snd_aload_n (i := 0) dX4_append_11 rfl) (Snd.cons (snd_get (ci := 5) (k := 6) dX4_append_12 rfl inX4 (by decide) tw_166) (Snd.cons (snd_iload_n (i := 1) dX4_append_15 rfl) Snd.nil))))
theorem bX4_append_17_23 {l : Launch} {E : XE} : Snd l E mX4_append 17 23 (xs [x_aload 0, x_dup, x_get 5 6, x_push (.int (nI 1))]) := Snd.cons (snd_aload_n (i := 0) dX4_append_17 rfl) (Snd.cons (snd_dup dX4_append_18) (Snd.cons (snd_get (ci := 5) (k := 6) dX4_append_19 rfl inX4 (by decide) tw_166) (Snd.cons (snd_iconst (v := nI 1) dX4_append_22 (by decide)) Snd.nil)))
theorem bX4_append_24_31 {l : Launch} {E : XE} : Snd l E mX4_append 24 31 (xs [x_puti 5 6, x_aload 0, x_get 5 6]) := Snd.cons (snd_puti (ci := 5) (k := 6) dX4_append_24 rfl inX4 tyX4_ok nmX4 (by decide) tw_166 rfl rfl) (Snd.cons (snd_aload_n (i := 0) dX4_append_27 rfl) (Snd.cons (snd_get (ci := 5) (k := 6) dX4_append_28 rfl inX4 (by decide) tw_166) Snd.nil))
set_option maxHeartbeats 4000000 in
set_option maxRecDepth 100000 in
theorem m_X4_append {l : Launch} {E : XE} (C : ScrN) (c : Nat) (hc : C.sz < 96) : MetE l E mX4_append (1) 0 0 [.ref 0, .int (nI (c))] (scrW 0 C) (fun r w' => r = some (.int (nI (C.sz + 1))) ∧ w' = scrW 0 ((up C.lt C.sz c, C.st, C.wd, C.f1, C.f2, C.f3, C.sz + 1, C.pl, C.fa, C.sn) : ScrN)) := by
  refine MetE.of (by decide +kernel) (Nat.le_of_ble_eq_true rfl) ?_
  refine ev_eq (lv' := [(0, .ref 0), (1, .int (nI (c)))]) (st' := []) (w' := scrW 0 C) rfl rfl rfl ?_
  refine ev_b bX4_append_0_1 (lv' := [(0, .ref 0), (1, .int (nI (c)))]) (st' := [.ref 0]) (w2 := scrW 0 C) rfl ?_
  refine ev_callV (Yc := mX4_isFull) [0, 1, 2, 3, 4, 5, 6] dX4_append_1 tw_260 kX4_isFull (m_X4_isFull C (by omega)) rfl (st := []) rfl rfl rfl (by decide) rfl (by decide) (Nat.le_of_ble_eq_true rfl) (Nat.le_refl _) (Nat.le_refl _) (fun r w' h => by obtain ⟨-, rfl⟩ := h; exact Nat.le_of_ble_eq_true rfl) ?_
  rintro _ _ ⟨rfl, rfl⟩
  refine ev_eq (lv' := [(0, .ref 0), (1, .int (nI (c)))]) (st' := [.int (nI (b01 (96 ≤ C.sz)))]) (w' := scrW 0 C) rfl rfl rfl ?_
  refine ev_ifne_b (tgt := 27) dX4_append_4 (by decide) (fun h4 => (by exfalso; omega)) (fun h4 => ?_)
  refine ev_b bX4_append_7_16 (lv' := [(0, .ref 0), (1, .int (nI (c)))]) (st' := [.int (nI (c)), .int (nI (C.sz)), .ref 1]) (w2 := scrW 0 C) rfl ?_
  refine ev_iast_n (f := C.lt) dX4_append_16 rfl (by omega) (by decide) ?_
  refine ev_eq (w' := scrW 0 ((up C.lt C.sz c, C.st, C.wd, C.f1, C.f2, C.f3, C.sz, C.pl, C.fa, C.sn) : ScrN)) rfl rfl rfl ?_
  refine ev_b bX4_append_17_23 (lv' := [(0, .ref 0), (1, .int (nI (c)))]) (st' := [.int (nI (1)), .int (nI (C.sz)), .ref 0]) (w2 := scrW 0 ((up C.lt C.sz c, C.st, C.wd, C.f1, C.f2, C.f3, C.sz, C.pl, C.fa, C.sn) : ScrN)) rfl ?_
  refine ev_iadd_n dX4_append_23 ?_
  refine ev_b bX4_append_24_31 (lv' := [(0, .ref 0), (1, .int (nI (c)))]) (st' := [.int (nI (C.sz + 1))]) (w2 := scrW 0 ((up C.lt C.sz c, C.st, C.wd, C.f1, C.f2, C.f3, C.sz + 1, C.pl, C.fa, C.sn) : ScrN)) rfl ?_
  exact ev_iret dX4_append_31 rfl (Nat.le_of_ble_eq_true rfl) (Nat.le_refl _) (Nat.le_refl _) ⟨rfl, rfl⟩
theorem bX6_letter_0_1 {l : Launch} {E : XE} : Snd l E mX6_letter 0 1 (xs [x_iload 1]) := Snd.cons (snd_iload_n (i := 1) dX6_letter_0 rfl) Snd.nil
theorem bX6_letter_4_7 {l : Launch} {E : XE} : Snd l E mX6_letter 4 7 (xs [x_aload 0, x_push (.int (-4))]) := Snd.cons (snd_aload_n (i := 0) dX6_letter_4 rfl) (Snd.cons (snd_bipush (v := -4) dX6_letter_5 (by decide)) Snd.nil)
set_option maxHeartbeats 4000000 in
set_option maxRecDepth 100000 in
theorem p_letter_4 {l : Launch} {E : XE} (T : TopN) (S P U : SaleN) (O : OutN) (B : BillN) (Q : SeaN) (C : ScrN) (R : PrtN) (tl rf : Nat → Nat) (z : Int) (hS : SaleOK S) (hQ : Q.fd < 2147483648) (rz : -2147483648 ≤ z ∧ z < 2147483648) (h : z < 0) : MetE l E mX6_letter (1) 0 0 [.ref 0, .int (zI (z))] (compW T S P U O B Q C R tl rf) (CP T S P (C.lt) (C.sz) tl (up rf 4 (rf 4 + 1)) (some (.int (-4)))) := by
  refine MetE.of (by decide +kernel) (Nat.le_of_ble_eq_true rfl) ?_
  have hca := hS.1
  have hpw := pow_ca hS
  have hac := ac_lt hS
  
  refine ev_eq (lv' := [(0, .ref 0), (1, .int (zI (z)))]) (st' := []) (w' := compW T S P U O B Q C R tl rf) rfl rfl rfl ?_
  refine ev_b bX6_letter_0_1 (lv' := [(0, .ref 0), (1, .int (zI (z)))]) (st' := [.int (zI (z))]) (w2 := compW T S P U O B Q C R tl rf) rfl ?_
  refine ev_if_ge_z (tgt := 11) (by constructor <;> omega) dX6_letter_1 (by decide) (fun h1 => (by exfalso; omega)) (fun h1 => ?_)
  refine ev_b bX6_letter_4_7 (lv' := [(0, .ref 0), (1, .int (zI (z)))]) (st' := [.int (-4), .ref 0]) (w2 := compW T S P U O B Q C R tl rf) rfl ?_
  refine ev_callV (Yc := mX6_refuse) (rng 0 49) dX6_letter_7 tw_248 kX6_refuse (m_X6_refuse_4 T S P U O B Q C R tl rf) rfl (st := []) rfl rfl rfl (by decide) (same_hw (compW T S P U O B Q C R tl rf)) (by decide) (Nat.le_of_ble_eq_true rfl) (Nat.le_refl _) (Nat.le_refl _) (fun r w' h => by obtain ⟨-, rfl⟩ := h; exact Nat.le_of_ble_eq_true rfl) ?_
  rintro _ _ ⟨rfl, rfl⟩
  refine ev_eq (lv' := [(0, .ref 0), (1, .int (zI (z)))]) (st' := [.int (-4)]) (w' := compW T S P U O B Q C R tl ((up rf 4 (rf 4 + 1)))) rfl rfl (same_xp (compW T S P U O B Q C R tl rf) (compW T S P U O B Q C R tl ((up rf 4 (rf 4 + 1)))) rfl) ?_
  exact ev_iret dX6_letter_10 rfl (Nat.le_refl 49) (Nat.le_refl _) (Nat.le_refl _) ⟨rfl, _, _, _, _, _, _, rfl, hQ, rfl, rfl⟩
theorem bX6_letter_11_15 {l : Launch} {E : XE} : Snd l E mX6_letter 11 15 (xs [x_iload 1, x_push (.int (nI 255))]) := Snd.cons (snd_iload_n (i := 1) dX6_letter_11 rfl) (Snd.cons (snd_sipush (v := nI 255) dX6_letter_12 (by decide)) Snd.nil)
theorem bX6_letter_28_31 {l : Launch} {E : XE} : Snd l E mX6_letter 28 31 (xs [x_aload 0, x_push (.int (-6))]) := Snd.cons (snd_aload_n (i := 0) dX6_letter_28 rfl) (Snd.cons (snd_bipush (v := -6) dX6_letter_29 (by decide)) Snd.nil)
set_option maxHeartbeats 4000000 in
set_option maxRecDepth 100000 in
theorem p_letter_6 {l : Launch} {E : XE} (T : TopN) (S P U : SaleN) (O : OutN) (B : BillN) (Q : SeaN) (C : ScrN) (R : PrtN) (tl rf : Nat → Nat) (z : Int) (hS : SaleOK S) (hQ : Q.fd < 2147483648) (rz : -2147483648 ≤ z ∧ z < 2147483648) (h : 255 < z) : MetE l E mX6_letter (1) 0 0 [.ref 0, .int (zI (z))] (compW T S P U O B Q C R tl rf) (CP T S P (C.lt) (C.sz) tl (up rf 6 (rf 6 + 1)) (some (.int (-6)))) := by
  refine MetE.of (by decide +kernel) (Nat.le_of_ble_eq_true rfl) ?_
  have hca := hS.1
  have hpw := pow_ca hS
  have hac := ac_lt hS
  
  refine ev_eq (lv' := [(0, .ref 0), (1, .int (zI (z)))]) (st' := []) (w' := compW T S P U O B Q C R tl rf) rfl rfl rfl ?_
  refine ev_b bX6_letter_0_1 (lv' := [(0, .ref 0), (1, .int (zI (z)))]) (st' := [.int (zI (z))]) (w2 := compW T S P U O B Q C R tl rf) rfl ?_
  refine ev_if_ge_z (tgt := 11) (by constructor <;> omega) dX6_letter_1 (by decide) (fun h1 => ?_) (fun h1 => (by exfalso; omega))
  refine ev_b bX6_letter_11_15 (lv' := [(0, .ref 0), (1, .int (zI (z)))]) (st' := [.int (nI (255)), .int (zI (z))]) (w2 := compW T S P U O B Q C R tl rf) rfl ?_
  refine ev_top (y := zI (((255 : Nat) : Int))) (zI_nat _).symm ?_
  refine ev_icmp_gt_z (tgt := 28) (by constructor <;> omega) (by constructor <;> omega) dX6_letter_15 (by decide) (fun h15 => ?_) (fun h15 => (by exfalso; omega))
  refine ev_b bX6_letter_28_31 (lv' := [(0, .ref 0), (1, .int (zI (z)))]) (st' := [.int (-6), .ref 0]) (w2 := compW T S P U O B Q C R tl rf) rfl ?_
  refine ev_callV (Yc := mX6_refuse) (rng 0 49) dX6_letter_31 tw_248 kX6_refuse (m_X6_refuse_6 T S P U O B Q C R tl rf) rfl (st := []) rfl rfl rfl (by decide) (same_hw (compW T S P U O B Q C R tl rf)) (by decide) (Nat.le_of_ble_eq_true rfl) (Nat.le_refl _) (Nat.le_refl _) (fun r w' h => by obtain ⟨-, rfl⟩ := h; exact Nat.le_of_ble_eq_true rfl) ?_
  rintro _ _ ⟨rfl, rfl⟩
  refine ev_eq (lv' := [(0, .ref 0), (1, .int (zI (z)))]) (st' := [.int (-6)]) (w' := compW T S P U O B Q C R tl ((up rf 6 (rf 6 + 1)))) rfl rfl (same_xp (compW T S P U O B Q C R tl rf) (compW T S P U O B Q C R tl ((up rf 6 (rf 6 + 1)))) rfl) ?_
  exact ev_iret dX6_letter_34 rfl (Nat.le_refl 49) (Nat.le_refl _) (Nat.le_refl _) ⟨rfl, _, _, _, _, _, _, rfl, hQ, rfl, rfl⟩
theorem hw_comp__38 {x0 : TopN} {x1 : SaleN} {x2 : SaleN} {x3 : SaleN} {x4 : OutN} {x5 : BillN} {x6 : SeaN} {x7 : ScrN} {x8 : PrtN} {x9 : Nat → Nat} {x10 : Nat → Nat} : ([38, 39, 40, 41, 42, 43, 44] : List Nat).map (fun i => (compW x0 x1 x2 x3 x4 x5 x6 x7 x8 x9 x10)[i]?) = (scrW 0 x7).map (fun e => some (xr ([38, 39, 40, 41, 42, 43, 44] : List Nat) (compW x0 x1 x2 x3 x4 x5 x6 x7 x8 x9 x10).length e)) := rfl
theorem xp_comp__38 {x0 : TopN} {x1 : SaleN} {x2 : SaleN} {x3 : SaleN} {x4 : OutN} {x5 : BillN} {x6 : SeaN} {x7 : ScrN} {x8 : PrtN} {x9 : Nat → Nat} {x10 : Nat → Nat} {y0 : ScrN} : xput ([38, 39, 40, 41, 42, 43, 44] : List Nat) (compW x0 x1 x2 x3 x4 x5 x6 x7 x8 x9 x10).length (compW x0 x1 x2 x3 x4 x5 x6 x7 x8 x9 x10) ([38, 39, 40, 41, 42, 43, 44] : List Nat) (scrW 0 y0) = compW x0 x1 x2 x3 x4 x5 x6 y0 x8 x9 x10 := by
  have e0 : xput ([38, 39, 40, 41, 42, 43, 44] : List Nat) (compW x0 x1 x2 x3 x4 x5 x6 x7 x8 x9 x10).length (compW x0 x1 x2 x3 x4 x5 x6 x7 x8 x9 x10) ([38, 39, 40, 41, 42, 43, 44] : List Nat) (scrW 0 y0) = compW x0 x1 x2 x3 x4 x5 x6 y0 x8 x9 x10 := xput_blk (topW 0 x0 ++ (saleW 1 x1 ++ (saleW 9 x2 ++ (saleW 17 x3 ++ (outW 25 x4 ++ (billW 30 x5 ++ (seaW 35 x6))))))) (scrW 38 x7) (prtW 45 x8 ++ (row5 47 x9 ++ (row7 48 x10))) (scrW 0 y0) rfl
  exact e0
theorem bX6_letter_18_22 {l : Launch} {E : XE} : Snd l E mX6_letter 18 22 (xs [x_aload 0, x_get 7 6]) := Snd.cons (snd_aload_n (i := 0) dX6_letter_18 rfl) (Snd.cons (snd_get (ci := 7) (k := 6) dX6_letter_19 rfl inX6 (by decide) tw_213) Snd.nil)
set_option maxHeartbeats 4000000 in
set_option maxRecDepth 100000 in
theorem p_letter_6f {l : Launch} {E : XE} (T : TopN) (S P U : SaleN) (O : OutN) (B : BillN) (Q : SeaN) (C : ScrN) (R : PrtN) (tl rf : Nat → Nat) (c : Nat) (hS : SaleOK S) (hQ : Q.fd < 2147483648) (hc : c ≤ 255) (h : C.sz = 96) : MetE l E mX6_letter (1) 0 0 [.ref 0, .int (nI (c))] (compW T S P U O B Q C R tl rf) (CP T S P (C.lt) (C.sz) tl (up rf 6 (rf 6 + 1)) (some (.int (-6)))) := by
  refine MetE.of (by decide +kernel) (Nat.le_of_ble_eq_true rfl) ?_
  have hca := hS.1
  have hpw := pow_ca hS
  have hac := ac_lt hS
  
  refine ev_eq (lv' := [(0, .ref 0), (1, .int (nI (c)))]) (st' := []) (w' := compW T S P U O B Q C R tl rf) rfl rfl rfl ?_
  refine ev_b bX6_letter_0_1 (lv' := [(0, .ref 0), (1, .int (nI (c)))]) (st' := [.int (nI (c))]) (w2 := compW T S P U O B Q C R tl rf) rfl ?_
  refine ev_if_ge_n (tgt := 11) (by omega) dX6_letter_1 (by decide) (fun h1 => ?_) (fun h1 => (by exfalso; omega))
  refine ev_b bX6_letter_11_15 (lv' := [(0, .ref 0), (1, .int (nI (c)))]) (st' := [.int (nI (255)), .int (nI (c))]) (w2 := compW T S P U O B Q C R tl rf) rfl ?_
  refine ev_icmp_gt_n (tgt := 28) (by omega) (by decide) dX6_letter_15 (by decide) (fun h15 => (by exfalso; omega)) (fun h15 => ?_)
  refine ev_b bX6_letter_18_22 (lv' := [(0, .ref 0), (1, .int (nI (c)))]) (st' := [.ref 38]) (w2 := compW T S P U O B Q C R tl rf) rfl ?_
  refine ev_callVN (Yc := mX4_isFull) [38, 39, 40, 41, 42, 43, 44] dX6_letter_22 tn_252 kX4_isFull (m_X4_isFull C (by omega)) rfl (st := []) rfl rfl rfl (by decide) hw_comp__38 (by decide) (Nat.le_of_ble_eq_true rfl) (Nat.le_refl _) (Nat.le_refl _) (fun r w' h => by obtain ⟨-, rfl⟩ := h; exact Nat.le_of_ble_eq_true rfl) ?_
  rintro _ _ ⟨rfl, rfl⟩
  refine ev_eq (lv' := [(0, .ref 0), (1, .int (nI (c)))]) (st' := [.int (nI (b01 (96 ≤ C.sz)))]) (w' := compW T S P U O B Q C R tl rf) rfl rfl xp_comp__38 ?_
  refine ev_ifeq_b (tgt := 35) dX6_letter_25 (by decide) (fun h25 => (by exfalso; omega)) (fun h25 => ?_)
  refine ev_b bX6_letter_28_31 (lv' := [(0, .ref 0), (1, .int (nI (c)))]) (st' := [.int (-6), .ref 0]) (w2 := compW T S P U O B Q C R tl rf) rfl ?_
  refine ev_callV (Yc := mX6_refuse) (rng 0 49) dX6_letter_31 tw_248 kX6_refuse (m_X6_refuse_6 T S P U O B Q C R tl rf) rfl (st := []) rfl rfl rfl (by decide) (same_hw (compW T S P U O B Q C R tl rf)) (by decide) (Nat.le_of_ble_eq_true rfl) (Nat.le_refl _) (Nat.le_refl _) (fun r w' h => by obtain ⟨-, rfl⟩ := h; exact Nat.le_of_ble_eq_true rfl) ?_
  rintro _ _ ⟨rfl, rfl⟩
  refine ev_eq (lv' := [(0, .ref 0), (1, .int (nI (c)))]) (st' := [.int (-6)]) (w' := compW T S P U O B Q C R tl ((up rf 6 (rf 6 + 1)))) rfl rfl (same_xp (compW T S P U O B Q C R tl rf) (compW T S P U O B Q C R tl ((up rf 6 (rf 6 + 1)))) rfl) ?_
  exact ev_iret dX6_letter_34 rfl (Nat.le_refl 49) (Nat.le_refl _) (Nat.le_refl _) ⟨rfl, _, _, _, _, _, _, rfl, hQ, rfl, rfl⟩
theorem bX6_letter_35_40 {l : Launch} {E : XE} : Snd l E mX6_letter 35 40 (xs [x_aload 0, x_get 7 6, x_iload 1]) := Snd.cons (snd_aload_n (i := 0) dX6_letter_35 rfl) (Snd.cons (snd_get (ci := 7) (k := 6) dX6_letter_36 rfl inX6 (by decide) tw_213) (Snd.cons (snd_iload_n (i := 1) dX6_letter_39 rfl) Snd.nil))
set_option maxHeartbeats 4000000 in
set_option maxRecDepth 100000 in
theorem p_letter_ok {l : Launch} {E : XE} (T : TopN) (S P U : SaleN) (O : OutN) (B : BillN) (Q : SeaN) (C : ScrN) (R : PrtN) (tl rf : Nat → Nat) (c : Nat) (hS : SaleOK S) (hQ : Q.fd < 2147483648) (hc : c ≤ 255) (h : C.sz < 96) : MetE l E mX6_letter (2) 0 0 [.ref 0, .int (nI (c))] (compW T S P U O B Q C R tl rf) (CP T S P (up C.lt C.sz c) (C.sz + 1) tl rf (some (.int (nI (C.sz + 1))))) := by
  refine MetE.of (by decide +kernel) (Nat.le_of_ble_eq_true rfl) ?_
  have hca := hS.1
  have hpw := pow_ca hS
  have hac := ac_lt hS
  
  refine ev_eq (lv' := [(0, .ref 0), (1, .int (nI (c)))]) (st' := []) (w' := compW T S P U O B Q C R tl rf) rfl rfl rfl ?_
  refine ev_b bX6_letter_0_1 (lv' := [(0, .ref 0), (1, .int (nI (c)))]) (st' := [.int (nI (c))]) (w2 := compW T S P U O B Q C R tl rf) rfl ?_
  refine ev_if_ge_n (tgt := 11) (by omega) dX6_letter_1 (by decide) (fun h1 => ?_) (fun h1 => (by exfalso; omega))
  refine ev_b bX6_letter_11_15 (lv' := [(0, .ref 0), (1, .int (nI (c)))]) (st' := [.int (nI (255)), .int (nI (c))]) (w2 := compW T S P U O B Q C R tl rf) rfl ?_
  refine ev_icmp_gt_n (tgt := 28) (by omega) (by decide) dX6_letter_15 (by decide) (fun h15 => (by exfalso; omega)) (fun h15 => ?_)
  refine ev_b bX6_letter_18_22 (lv' := [(0, .ref 0), (1, .int (nI (c)))]) (st' := [.ref 38]) (w2 := compW T S P U O B Q C R tl rf) rfl ?_
  refine ev_callVN (Yc := mX4_isFull) [38, 39, 40, 41, 42, 43, 44] dX6_letter_22 tn_252 kX4_isFull (m_X4_isFull C (by omega)) rfl (st := []) rfl rfl rfl (by decide) hw_comp__38 (by decide) (Nat.le_of_ble_eq_true rfl) (Nat.le_refl _) (Nat.le_refl _) (fun r w' h => by obtain ⟨-, rfl⟩ := h; exact Nat.le_of_ble_eq_true rfl) ?_
  rintro _ _ ⟨rfl, rfl⟩
  refine ev_eq (lv' := [(0, .ref 0), (1, .int (nI (c)))]) (st' := [.int (nI (b01 (96 ≤ C.sz)))]) (w' := compW T S P U O B Q C R tl rf) rfl rfl xp_comp__38 ?_
  refine ev_ifeq_b (tgt := 35) dX6_letter_25 (by decide) (fun h25 => ?_) (fun h25 => (by exfalso; omega))
  refine ev_b bX6_letter_35_40 (lv' := [(0, .ref 0), (1, .int (nI (c)))]) (st' := [.int (nI (c)), .ref 38]) (w2 := compW T S P U O B Q C R tl rf) rfl ?_
  refine ev_callVN (Yc := mX4_append) [38, 39, 40, 41, 42, 43, 44] dX6_letter_40 tn_256 kX4_append (m_X4_append C c h) rfl (st := []) rfl rfl rfl (by decide) hw_comp__38 (by decide) (Nat.le_of_ble_eq_true rfl) (Nat.le_refl _) (Nat.le_refl _) (fun r w' h => by obtain ⟨-, rfl⟩ := h; exact Nat.le_of_ble_eq_true rfl) ?_
  rintro _ _ ⟨rfl, rfl⟩
  refine ev_eq (lv' := [(0, .ref 0), (1, .int (nI (c)))]) (st' := [.int (nI (C.sz + 1))]) (w' := compW T S P U O B Q ((up C.lt C.sz c, C.st, C.wd, C.f1, C.f2, C.f3, C.sz + 1, C.pl, C.fa, C.sn) : ScrN) R tl rf) rfl rfl xp_comp__38 ?_
  exact ev_iret dX6_letter_43 rfl (Nat.le_refl 49) (Nat.le_refl _) (Nat.le_refl _) ⟨rfl, _, _, _, _, _, _, rfl, hQ, rfl, rfl⟩
theorem bX6_bids_0_1 {l : Launch} {E : XE} : Snd l E mX6_bids 0 1 (xs [x_iload 1]) := Snd.cons (snd_iload_n (i := 1) dX6_bids_0 rfl) Snd.nil
theorem bX6_bids_7_9 {l : Launch} {E : XE} : Snd l E mX6_bids 7 9 (xs [x_aload 0, x_push (.int (-1))]) := Snd.cons (snd_aload_n (i := 0) dX6_bids_7 rfl) (Snd.cons (snd_iconst (v := -1) dX6_bids_8 (by decide)) Snd.nil)
set_option maxHeartbeats 4000000 in
set_option maxRecDepth 100000 in
theorem p_bids_1 {l : Launch} {E : XE} (T : TopN) (S P U : SaleN) (O : OutN) (B : BillN) (Q : SeaN) (C : ScrN) (R : PrtN) (tl rf : Nat → Nat) (z1 z2 z3 : Int) (hS : SaleOK S) (hQ : Q.fd < 2147483648) (rz1 : -2147483648 ≤ z1 ∧ z1 < 2147483648) (rz2 : -2147483648 ≤ z2 ∧ z2 < 2147483648) (rz3 : -2147483648 ≤ z3 ∧ z3 < 2147483648) (h : ¬ (0 ≤ z1 ∧ z1 < 5)) : MetE l E mX6_bids (1) 0 0 [.ref 0, .int (zI (z1)), .int (zI (z2)), .int (zI (z3))] (compW T S P U O B Q C R tl rf) (CP T S P (C.lt) (C.sz) tl (up rf 1 (rf 1 + 1)) (some (.int (-1)))) := by
  refine MetE.of (by decide +kernel) (Nat.le_of_ble_eq_true rfl) ?_
  have hca := hS.1
  have hpw := pow_ca hS
  have hac := ac_lt hS
  
  refine ev_eq (lv' := [(0, .ref 0), (1, .int (zI (z1))), (2, .int (zI (z2))), (3, .int (zI (z3)))]) (st' := []) (w' := compW T S P U O B Q C R tl rf) rfl rfl rfl ?_
  refine ev_b bX6_bids_0_1 (lv' := [(0, .ref 0), (1, .int (zI (z1))), (2, .int (zI (z2))), (3, .int (zI (z3)))]) (st' := [.int (zI (z1))]) (w2 := compW T S P U O B Q C R tl rf) rfl ?_
  refine ev_callS (Yc := mX6_isBidder) [] dX6_bids_1 tw_437 kX6_isBidder (m_X6_isBidder_z z1 rz1) rfl (st := []) rfl (by decide) rfl (by decide) (Nat.le_of_ble_eq_true rfl) (Nat.le_refl _) (Nat.le_refl _) (fun r w' h => by obtain ⟨-, rfl⟩ := h; exact Nat.le_of_ble_eq_true rfl) ?_
  rintro _ _ ⟨rfl, rfl⟩
  refine ev_eq (lv' := [(0, .ref 0), (1, .int (zI (z1))), (2, .int (zI (z2))), (3, .int (zI (z3)))]) (st' := [.int (nI (b01 (0 ≤ z1 ∧ z1 < 5)))]) (w' := compW T S P U O B Q C R tl rf) rfl rfl rfl ?_
  refine ev_ifne_b (tgt := 13) dX6_bids_4 (by decide) (fun h4 => (by exfalso; omega)) (fun h4 => ?_)
  refine ev_b bX6_bids_7_9 (lv' := [(0, .ref 0), (1, .int (zI (z1))), (2, .int (zI (z2))), (3, .int (zI (z3)))]) (st' := [.int (-1), .ref 0]) (w2 := compW T S P U O B Q C R tl rf) rfl ?_
  refine ev_callV (Yc := mX6_refuse) (rng 0 49) dX6_bids_9 tw_248 kX6_refuse (m_X6_refuse_1 T S P U O B Q C R tl rf) rfl (st := []) rfl rfl rfl (by decide) (same_hw (compW T S P U O B Q C R tl rf)) (by decide) (Nat.le_of_ble_eq_true rfl) (Nat.le_refl _) (Nat.le_refl _) (fun r w' h => by obtain ⟨-, rfl⟩ := h; exact Nat.le_of_ble_eq_true rfl) ?_
  rintro _ _ ⟨rfl, rfl⟩
  refine ev_eq (lv' := [(0, .ref 0), (1, .int (zI (z1))), (2, .int (zI (z2))), (3, .int (zI (z3)))]) (st' := [.int (-1)]) (w' := compW T S P U O B Q C R tl ((up rf 1 (rf 1 + 1)))) rfl rfl (same_xp (compW T S P U O B Q C R tl rf) (compW T S P U O B Q C R tl ((up rf 1 (rf 1 + 1)))) rfl) ?_
  exact ev_iret dX6_bids_12 rfl (Nat.le_refl 49) (Nat.le_refl _) (Nat.le_refl _) ⟨rfl, _, _, _, _, _, _, rfl, hQ, rfl, rfl⟩
theorem bX6_bids_13_15 {l : Launch} {E : XE} : Snd l E mX6_bids 13 15 (xs [x_iload 2, x_push (.int (nI 1))]) := Snd.cons (snd_iload_n (i := 2) dX6_bids_13 rfl) (Snd.cons (snd_iconst (v := nI 1) dX6_bids_14 (by decide)) Snd.nil)
theorem bX6_bids_23_26 {l : Launch} {E : XE} : Snd l E mX6_bids 23 26 (xs [x_aload 0, x_push (.int (-4))]) := Snd.cons (snd_aload_n (i := 0) dX6_bids_23 rfl) (Snd.cons (snd_bipush (v := -4) dX6_bids_24 (by decide)) Snd.nil)
set_option maxHeartbeats 4000000 in
set_option maxRecDepth 100000 in
theorem p_bids_4a {l : Launch} {E : XE} (T : TopN) (S P U : SaleN) (O : OutN) (B : BillN) (Q : SeaN) (C : ScrN) (R : PrtN) (tl rf : Nat → Nat) (z1 z2 z3 : Int) (hS : SaleOK S) (hQ : Q.fd < 2147483648) (rz1 : -2147483648 ≤ z1 ∧ z1 < 2147483648) (rz2 : -2147483648 ≤ z2 ∧ z2 < 2147483648) (rz3 : -2147483648 ≤ z3 ∧ z3 < 2147483648) (h : 0 ≤ z1 ∧ z1 < 5) (h2 : z2 < 1) : MetE l E mX6_bids (1) 0 0 [.ref 0, .int (zI (z1)), .int (zI (z2)), .int (zI (z3))] (compW T S P U O B Q C R tl rf) (CP T S P (C.lt) (C.sz) tl (up rf 4 (rf 4 + 1)) (some (.int (-4)))) := by
  refine MetE.of (by decide +kernel) (Nat.le_of_ble_eq_true rfl) ?_
  have hca := hS.1
  have hpw := pow_ca hS
  have hac := ac_lt hS
  
  refine ev_eq (lv' := [(0, .ref 0), (1, .int (zI (z1))), (2, .int (zI (z2))), (3, .int (zI (z3)))]) (st' := []) (w' := compW T S P U O B Q C R tl rf) rfl rfl rfl ?_
  refine ev_b bX6_bids_0_1 (lv' := [(0, .ref 0), (1, .int (zI (z1))), (2, .int (zI (z2))), (3, .int (zI (z3)))]) (st' := [.int (zI (z1))]) (w2 := compW T S P U O B Q C R tl rf) rfl ?_
  refine ev_callS (Yc := mX6_isBidder) [] dX6_bids_1 tw_437 kX6_isBidder (m_X6_isBidder_z z1 rz1) rfl (st := []) rfl (by decide) rfl (by decide) (Nat.le_of_ble_eq_true rfl) (Nat.le_refl _) (Nat.le_refl _) (fun r w' h => by obtain ⟨-, rfl⟩ := h; exact Nat.le_of_ble_eq_true rfl) ?_
  rintro _ _ ⟨rfl, rfl⟩
  refine ev_eq (lv' := [(0, .ref 0), (1, .int (zI (z1))), (2, .int (zI (z2))), (3, .int (zI (z3)))]) (st' := [.int (nI (b01 (0 ≤ z1 ∧ z1 < 5)))]) (w' := compW T S P U O B Q C R tl rf) rfl rfl rfl ?_
  refine ev_ifne_b (tgt := 13) dX6_bids_4 (by decide) (fun h4 => ?_) (fun h4 => (by exfalso; omega))
  refine ev_b bX6_bids_13_15 (lv' := [(0, .ref 0), (1, .int (zI (z1))), (2, .int (zI (z2))), (3, .int (zI (z3)))]) (st' := [.int (nI (1)), .int (zI (z2))]) (w2 := compW T S P U O B Q C R tl rf) rfl ?_
  refine ev_top (y := zI (((1 : Nat) : Int))) (zI_nat _).symm ?_
  refine ev_icmp_lt_z (tgt := 23) (by constructor <;> omega) (by constructor <;> omega) dX6_bids_15 (by decide) (fun h15 => ?_) (fun h15 => (by exfalso; omega))
  refine ev_b bX6_bids_23_26 (lv' := [(0, .ref 0), (1, .int (zI (z1))), (2, .int (zI (z2))), (3, .int (zI (z3)))]) (st' := [.int (-4), .ref 0]) (w2 := compW T S P U O B Q C R tl rf) rfl ?_
  refine ev_callV (Yc := mX6_refuse) (rng 0 49) dX6_bids_26 tw_248 kX6_refuse (m_X6_refuse_4 T S P U O B Q C R tl rf) rfl (st := []) rfl rfl rfl (by decide) (same_hw (compW T S P U O B Q C R tl rf)) (by decide) (Nat.le_of_ble_eq_true rfl) (Nat.le_refl _) (Nat.le_refl _) (fun r w' h => by obtain ⟨-, rfl⟩ := h; exact Nat.le_of_ble_eq_true rfl) ?_
  rintro _ _ ⟨rfl, rfl⟩
  refine ev_eq (lv' := [(0, .ref 0), (1, .int (zI (z1))), (2, .int (zI (z2))), (3, .int (zI (z3)))]) (st' := [.int (-4)]) (w' := compW T S P U O B Q C R tl ((up rf 4 (rf 4 + 1)))) rfl rfl (same_xp (compW T S P U O B Q C R tl rf) (compW T S P U O B Q C R tl ((up rf 4 (rf 4 + 1)))) rfl) ?_
  exact ev_iret dX6_bids_29 rfl (Nat.le_refl 49) (Nat.le_refl _) (Nat.le_refl _) ⟨rfl, _, _, _, _, _, _, rfl, hQ, rfl, rfl⟩
theorem bX6_bids_18_20 {l : Launch} {E : XE} : Snd l E mX6_bids 18 20 (xs [x_iload 3, x_push (.int (nI 1))]) := Snd.cons (snd_iload_n (i := 3) dX6_bids_18 rfl) (Snd.cons (snd_iconst (v := nI 1) dX6_bids_19 (by decide)) Snd.nil)
set_option maxHeartbeats 4000000 in
set_option maxRecDepth 100000 in
theorem p_bids_4b {l : Launch} {E : XE} (T : TopN) (S P U : SaleN) (O : OutN) (B : BillN) (Q : SeaN) (C : ScrN) (R : PrtN) (tl rf : Nat → Nat) (z1 z2 z3 : Int) (hS : SaleOK S) (hQ : Q.fd < 2147483648) (rz1 : -2147483648 ≤ z1 ∧ z1 < 2147483648) (rz2 : -2147483648 ≤ z2 ∧ z2 < 2147483648) (rz3 : -2147483648 ≤ z3 ∧ z3 < 2147483648) (h : 0 ≤ z1 ∧ z1 < 5) (h2 : 1 ≤ z2) (h3 : z3 < 1) : MetE l E mX6_bids (1) 0 0 [.ref 0, .int (zI (z1)), .int (zI (z2)), .int (zI (z3))] (compW T S P U O B Q C R tl rf) (CP T S P (C.lt) (C.sz) tl (up rf 4 (rf 4 + 1)) (some (.int (-4)))) := by
  refine MetE.of (by decide +kernel) (Nat.le_of_ble_eq_true rfl) ?_
  have hca := hS.1
  have hpw := pow_ca hS
  have hac := ac_lt hS
  
  refine ev_eq (lv' := [(0, .ref 0), (1, .int (zI (z1))), (2, .int (zI (z2))), (3, .int (zI (z3)))]) (st' := []) (w' := compW T S P U O B Q C R tl rf) rfl rfl rfl ?_
  refine ev_b bX6_bids_0_1 (lv' := [(0, .ref 0), (1, .int (zI (z1))), (2, .int (zI (z2))), (3, .int (zI (z3)))]) (st' := [.int (zI (z1))]) (w2 := compW T S P U O B Q C R tl rf) rfl ?_
  refine ev_callS (Yc := mX6_isBidder) [] dX6_bids_1 tw_437 kX6_isBidder (m_X6_isBidder_z z1 rz1) rfl (st := []) rfl (by decide) rfl (by decide) (Nat.le_of_ble_eq_true rfl) (Nat.le_refl _) (Nat.le_refl _) (fun r w' h => by obtain ⟨-, rfl⟩ := h; exact Nat.le_of_ble_eq_true rfl) ?_
  rintro _ _ ⟨rfl, rfl⟩
  refine ev_eq (lv' := [(0, .ref 0), (1, .int (zI (z1))), (2, .int (zI (z2))), (3, .int (zI (z3)))]) (st' := [.int (nI (b01 (0 ≤ z1 ∧ z1 < 5)))]) (w' := compW T S P U O B Q C R tl rf) rfl rfl rfl ?_
  refine ev_ifne_b (tgt := 13) dX6_bids_4 (by decide) (fun h4 => ?_) (fun h4 => (by exfalso; omega))
  refine ev_b bX6_bids_13_15 (lv' := [(0, .ref 0), (1, .int (zI (z1))), (2, .int (zI (z2))), (3, .int (zI (z3)))]) (st' := [.int (nI (1)), .int (zI (z2))]) (w2 := compW T S P U O B Q C R tl rf) rfl ?_
  refine ev_top (y := zI (((1 : Nat) : Int))) (zI_nat _).symm ?_
  refine ev_icmp_lt_z (tgt := 23) (by constructor <;> omega) (by constructor <;> omega) dX6_bids_15 (by decide) (fun h15 => (by exfalso; omega)) (fun h15 => ?_)
  refine ev_b bX6_bids_18_20 (lv' := [(0, .ref 0), (1, .int (zI (z1))), (2, .int (zI (z2))), (3, .int (zI (z3)))]) (st' := [.int (nI (1)), .int (zI (z3))]) (w2 := compW T S P U O B Q C R tl rf) rfl ?_
  refine ev_top (y := zI (((1 : Nat) : Int))) (zI_nat _).symm ?_
  refine ev_icmp_ge_z (tgt := 30) (by constructor <;> omega) (by constructor <;> omega) dX6_bids_20 (by decide) (fun h20 => (by exfalso; omega)) (fun h20 => ?_)
  refine ev_b bX6_bids_23_26 (lv' := [(0, .ref 0), (1, .int (zI (z1))), (2, .int (zI (z2))), (3, .int (zI (z3)))]) (st' := [.int (-4), .ref 0]) (w2 := compW T S P U O B Q C R tl rf) rfl ?_
  refine ev_callV (Yc := mX6_refuse) (rng 0 49) dX6_bids_26 tw_248 kX6_refuse (m_X6_refuse_4 T S P U O B Q C R tl rf) rfl (st := []) rfl rfl rfl (by decide) (same_hw (compW T S P U O B Q C R tl rf)) (by decide) (Nat.le_of_ble_eq_true rfl) (Nat.le_refl _) (Nat.le_refl _) (fun r w' h => by obtain ⟨-, rfl⟩ := h; exact Nat.le_of_ble_eq_true rfl) ?_
  rintro _ _ ⟨rfl, rfl⟩
  refine ev_eq (lv' := [(0, .ref 0), (1, .int (zI (z1))), (2, .int (zI (z2))), (3, .int (zI (z3)))]) (st' := [.int (-4)]) (w' := compW T S P U O B Q C R tl ((up rf 4 (rf 4 + 1)))) rfl rfl (same_xp (compW T S P U O B Q C R tl rf) (compW T S P U O B Q C R tl ((up rf 4 (rf 4 + 1)))) rfl) ?_
  exact ev_iret dX6_bids_29 rfl (Nat.le_refl 49) (Nat.le_refl _) (Nat.le_refl _) ⟨rfl, _, _, _, _, _, _, rfl, hQ, rfl, rfl⟩
theorem bX6_bids_30_33 {l : Launch} {E : XE} : Snd l E mX6_bids 30 33 (xs [x_iload 2, x_push (.int (nI 63))]) := Snd.cons (snd_iload_n (i := 2) dX6_bids_30 rfl) (Snd.cons (snd_bipush (v := nI 63) dX6_bids_31 (by decide)) Snd.nil)
theorem bX6_bids_52_55 {l : Launch} {E : XE} : Snd l E mX6_bids 52 55 (xs [x_aload 0, x_push (.int (-6))]) := Snd.cons (snd_aload_n (i := 0) dX6_bids_52 rfl) (Snd.cons (snd_bipush (v := -6) dX6_bids_53 (by decide)) Snd.nil)
set_option maxHeartbeats 4000000 in
set_option maxRecDepth 100000 in
theorem p_bids_6a {l : Launch} {E : XE} (T : TopN) (S P U : SaleN) (O : OutN) (B : BillN) (Q : SeaN) (C : ScrN) (R : PrtN) (tl rf : Nat → Nat) (z1 z2 z3 : Int) (hS : SaleOK S) (hQ : Q.fd < 2147483648) (rz1 : -2147483648 ≤ z1 ∧ z1 < 2147483648) (rz2 : -2147483648 ≤ z2 ∧ z2 < 2147483648) (rz3 : -2147483648 ≤ z3 ∧ z3 < 2147483648) (h : 0 ≤ z1 ∧ z1 < 5) (h2 : 63 < z2) (h3 : 1 ≤ z3) : MetE l E mX6_bids (1) 0 0 [.ref 0, .int (zI (z1)), .int (zI (z2)), .int (zI (z3))] (compW T S P U O B Q C R tl rf) (CP T S P (C.lt) (C.sz) tl (up rf 6 (rf 6 + 1)) (some (.int (-6)))) := by
  refine MetE.of (by decide +kernel) (Nat.le_of_ble_eq_true rfl) ?_
  have hca := hS.1
  have hpw := pow_ca hS
  have hac := ac_lt hS
  
  refine ev_eq (lv' := [(0, .ref 0), (1, .int (zI (z1))), (2, .int (zI (z2))), (3, .int (zI (z3)))]) (st' := []) (w' := compW T S P U O B Q C R tl rf) rfl rfl rfl ?_
  refine ev_b bX6_bids_0_1 (lv' := [(0, .ref 0), (1, .int (zI (z1))), (2, .int (zI (z2))), (3, .int (zI (z3)))]) (st' := [.int (zI (z1))]) (w2 := compW T S P U O B Q C R tl rf) rfl ?_
  refine ev_callS (Yc := mX6_isBidder) [] dX6_bids_1 tw_437 kX6_isBidder (m_X6_isBidder_z z1 rz1) rfl (st := []) rfl (by decide) rfl (by decide) (Nat.le_of_ble_eq_true rfl) (Nat.le_refl _) (Nat.le_refl _) (fun r w' h => by obtain ⟨-, rfl⟩ := h; exact Nat.le_of_ble_eq_true rfl) ?_
  rintro _ _ ⟨rfl, rfl⟩
  refine ev_eq (lv' := [(0, .ref 0), (1, .int (zI (z1))), (2, .int (zI (z2))), (3, .int (zI (z3)))]) (st' := [.int (nI (b01 (0 ≤ z1 ∧ z1 < 5)))]) (w' := compW T S P U O B Q C R tl rf) rfl rfl rfl ?_
  refine ev_ifne_b (tgt := 13) dX6_bids_4 (by decide) (fun h4 => ?_) (fun h4 => (by exfalso; omega))
  refine ev_b bX6_bids_13_15 (lv' := [(0, .ref 0), (1, .int (zI (z1))), (2, .int (zI (z2))), (3, .int (zI (z3)))]) (st' := [.int (nI (1)), .int (zI (z2))]) (w2 := compW T S P U O B Q C R tl rf) rfl ?_
  refine ev_top (y := zI (((1 : Nat) : Int))) (zI_nat _).symm ?_
  refine ev_icmp_lt_z (tgt := 23) (by constructor <;> omega) (by constructor <;> omega) dX6_bids_15 (by decide) (fun h15 => (by exfalso; omega)) (fun h15 => ?_)
  refine ev_b bX6_bids_18_20 (lv' := [(0, .ref 0), (1, .int (zI (z1))), (2, .int (zI (z2))), (3, .int (zI (z3)))]) (st' := [.int (nI (1)), .int (zI (z3))]) (w2 := compW T S P U O B Q C R tl rf) rfl ?_
  refine ev_top (y := zI (((1 : Nat) : Int))) (zI_nat _).symm ?_
  refine ev_icmp_ge_z (tgt := 30) (by constructor <;> omega) (by constructor <;> omega) dX6_bids_20 (by decide) (fun h20 => ?_) (fun h20 => (by exfalso; omega))
  refine ev_b bX6_bids_30_33 (lv' := [(0, .ref 0), (1, .int (zI (z1))), (2, .int (zI (z2))), (3, .int (zI (z3)))]) (st' := [.int (nI (63)), .int (zI (z2))]) (w2 := compW T S P U O B Q C R tl rf) rfl ?_
  refine ev_top (y := zI (((63 : Nat) : Int))) (zI_nat _).symm ?_
  refine ev_icmp_gt_z (tgt := 52) (by constructor <;> omega) (by constructor <;> omega) dX6_bids_33 (by decide) (fun h33 => ?_) (fun h33 => (by exfalso; omega))
  refine ev_b bX6_bids_52_55 (lv' := [(0, .ref 0), (1, .int (zI (z1))), (2, .int (zI (z2))), (3, .int (zI (z3)))]) (st' := [.int (-6), .ref 0]) (w2 := compW T S P U O B Q C R tl rf) rfl ?_
  refine ev_callV (Yc := mX6_refuse) (rng 0 49) dX6_bids_55 tw_248 kX6_refuse (m_X6_refuse_6 T S P U O B Q C R tl rf) rfl (st := []) rfl rfl rfl (by decide) (same_hw (compW T S P U O B Q C R tl rf)) (by decide) (Nat.le_of_ble_eq_true rfl) (Nat.le_refl _) (Nat.le_refl _) (fun r w' h => by obtain ⟨-, rfl⟩ := h; exact Nat.le_of_ble_eq_true rfl) ?_
  rintro _ _ ⟨rfl, rfl⟩
  refine ev_eq (lv' := [(0, .ref 0), (1, .int (zI (z1))), (2, .int (zI (z2))), (3, .int (zI (z3)))]) (st' := [.int (-6)]) (w' := compW T S P U O B Q C R tl ((up rf 6 (rf 6 + 1)))) rfl rfl (same_xp (compW T S P U O B Q C R tl rf) (compW T S P U O B Q C R tl ((up rf 6 (rf 6 + 1)))) rfl) ?_
  exact ev_iret dX6_bids_58 rfl (Nat.le_refl 49) (Nat.le_refl _) (Nat.le_refl _) ⟨rfl, _, _, _, _, _, _, rfl, hQ, rfl, rfl⟩
theorem bX6_bids_36_39 {l : Launch} {E : XE} : Snd l E mX6_bids 36 39 (xs [x_iload 3, x_push (.int (nI 99))]) := Snd.cons (snd_iload_n (i := 3) dX6_bids_36 rfl) (Snd.cons (snd_bipush (v := nI 99) dX6_bids_37 (by decide)) Snd.nil)
set_option maxHeartbeats 4000000 in
set_option maxRecDepth 100000 in
theorem p_bids_6b {l : Launch} {E : XE} (T : TopN) (S P U : SaleN) (O : OutN) (B : BillN) (Q : SeaN) (C : ScrN) (R : PrtN) (tl rf : Nat → Nat) (z1 z2 z3 : Int) (hS : SaleOK S) (hQ : Q.fd < 2147483648) (rz1 : -2147483648 ≤ z1 ∧ z1 < 2147483648) (rz2 : -2147483648 ≤ z2 ∧ z2 < 2147483648) (rz3 : -2147483648 ≤ z3 ∧ z3 < 2147483648) (h : 0 ≤ z1 ∧ z1 < 5) (h2 : 1 ≤ z2 ∧ z2 ≤ 63) (h3 : 99 < z3) : MetE l E mX6_bids (1) 0 0 [.ref 0, .int (zI (z1)), .int (zI (z2)), .int (zI (z3))] (compW T S P U O B Q C R tl rf) (CP T S P (C.lt) (C.sz) tl (up rf 6 (rf 6 + 1)) (some (.int (-6)))) := by
  refine MetE.of (by decide +kernel) (Nat.le_of_ble_eq_true rfl) ?_
  have hca := hS.1
  have hpw := pow_ca hS
  have hac := ac_lt hS
  
  refine ev_eq (lv' := [(0, .ref 0), (1, .int (zI (z1))), (2, .int (zI (z2))), (3, .int (zI (z3)))]) (st' := []) (w' := compW T S P U O B Q C R tl rf) rfl rfl rfl ?_
  refine ev_b bX6_bids_0_1 (lv' := [(0, .ref 0), (1, .int (zI (z1))), (2, .int (zI (z2))), (3, .int (zI (z3)))]) (st' := [.int (zI (z1))]) (w2 := compW T S P U O B Q C R tl rf) rfl ?_
  refine ev_callS (Yc := mX6_isBidder) [] dX6_bids_1 tw_437 kX6_isBidder (m_X6_isBidder_z z1 rz1) rfl (st := []) rfl (by decide) rfl (by decide) (Nat.le_of_ble_eq_true rfl) (Nat.le_refl _) (Nat.le_refl _) (fun r w' h => by obtain ⟨-, rfl⟩ := h; exact Nat.le_of_ble_eq_true rfl) ?_
  rintro _ _ ⟨rfl, rfl⟩
  refine ev_eq (lv' := [(0, .ref 0), (1, .int (zI (z1))), (2, .int (zI (z2))), (3, .int (zI (z3)))]) (st' := [.int (nI (b01 (0 ≤ z1 ∧ z1 < 5)))]) (w' := compW T S P U O B Q C R tl rf) rfl rfl rfl ?_
  refine ev_ifne_b (tgt := 13) dX6_bids_4 (by decide) (fun h4 => ?_) (fun h4 => (by exfalso; omega))
  refine ev_b bX6_bids_13_15 (lv' := [(0, .ref 0), (1, .int (zI (z1))), (2, .int (zI (z2))), (3, .int (zI (z3)))]) (st' := [.int (nI (1)), .int (zI (z2))]) (w2 := compW T S P U O B Q C R tl rf) rfl ?_
  refine ev_top (y := zI (((1 : Nat) : Int))) (zI_nat _).symm ?_
  refine ev_icmp_lt_z (tgt := 23) (by constructor <;> omega) (by constructor <;> omega) dX6_bids_15 (by decide) (fun h15 => (by exfalso; omega)) (fun h15 => ?_)
  refine ev_b bX6_bids_18_20 (lv' := [(0, .ref 0), (1, .int (zI (z1))), (2, .int (zI (z2))), (3, .int (zI (z3)))]) (st' := [.int (nI (1)), .int (zI (z3))]) (w2 := compW T S P U O B Q C R tl rf) rfl ?_
  refine ev_top (y := zI (((1 : Nat) : Int))) (zI_nat _).symm ?_
  refine ev_icmp_ge_z (tgt := 30) (by constructor <;> omega) (by constructor <;> omega) dX6_bids_20 (by decide) (fun h20 => ?_) (fun h20 => (by exfalso; omega))
  refine ev_b bX6_bids_30_33 (lv' := [(0, .ref 0), (1, .int (zI (z1))), (2, .int (zI (z2))), (3, .int (zI (z3)))]) (st' := [.int (nI (63)), .int (zI (z2))]) (w2 := compW T S P U O B Q C R tl rf) rfl ?_
  refine ev_top (y := zI (((63 : Nat) : Int))) (zI_nat _).symm ?_
  refine ev_icmp_gt_z (tgt := 52) (by constructor <;> omega) (by constructor <;> omega) dX6_bids_33 (by decide) (fun h33 => (by exfalso; omega)) (fun h33 => ?_)
  refine ev_b bX6_bids_36_39 (lv' := [(0, .ref 0), (1, .int (zI (z1))), (2, .int (zI (z2))), (3, .int (zI (z3)))]) (st' := [.int (nI (99)), .int (zI (z3))]) (w2 := compW T S P U O B Q C R tl rf) rfl ?_
  refine ev_top (y := zI (((99 : Nat) : Int))) (zI_nat _).symm ?_
  refine ev_icmp_gt_z (tgt := 52) (by constructor <;> omega) (by constructor <;> omega) dX6_bids_39 (by decide) (fun h39 => ?_) (fun h39 => (by exfalso; omega))
  refine ev_b bX6_bids_52_55 (lv' := [(0, .ref 0), (1, .int (zI (z1))), (2, .int (zI (z2))), (3, .int (zI (z3)))]) (st' := [.int (-6), .ref 0]) (w2 := compW T S P U O B Q C R tl rf) rfl ?_
  refine ev_callV (Yc := mX6_refuse) (rng 0 49) dX6_bids_55 tw_248 kX6_refuse (m_X6_refuse_6 T S P U O B Q C R tl rf) rfl (st := []) rfl rfl rfl (by decide) (same_hw (compW T S P U O B Q C R tl rf)) (by decide) (Nat.le_of_ble_eq_true rfl) (Nat.le_refl _) (Nat.le_refl _) (fun r w' h => by obtain ⟨-, rfl⟩ := h; exact Nat.le_of_ble_eq_true rfl) ?_
  rintro _ _ ⟨rfl, rfl⟩
  refine ev_eq (lv' := [(0, .ref 0), (1, .int (zI (z1))), (2, .int (zI (z2))), (3, .int (zI (z3)))]) (st' := [.int (-6)]) (w' := compW T S P U O B Q C R tl ((up rf 6 (rf 6 + 1)))) rfl rfl (same_xp (compW T S P U O B Q C R tl rf) (compW T S P U O B Q C R tl ((up rf 6 (rf 6 + 1)))) rfl) ?_
  exact ev_iret dX6_bids_58 rfl (Nat.le_refl 49) (Nat.le_refl _) (Nat.le_refl _) ⟨rfl, _, _, _, _, _, _, rfl, hQ, rfl, rfl⟩
theorem hw_comp__1 {x0 : TopN} {x1 : SaleN} {x2 : SaleN} {x3 : SaleN} {x4 : OutN} {x5 : BillN} {x6 : SeaN} {x7 : ScrN} {x8 : PrtN} {x9 : Nat → Nat} {x10 : Nat → Nat} : ([1, 2, 3, 4, 5, 6, 7, 8] : List Nat).map (fun i => (compW x0 x1 x2 x3 x4 x5 x6 x7 x8 x9 x10)[i]?) = (saleW 0 x1).map (fun e => some (xr ([1, 2, 3, 4, 5, 6, 7, 8] : List Nat) (compW x0 x1 x2 x3 x4 x5 x6 x7 x8 x9 x10).length e)) := rfl
theorem xp_comp__1 {x0 : TopN} {x1 : SaleN} {x2 : SaleN} {x3 : SaleN} {x4 : OutN} {x5 : BillN} {x6 : SeaN} {x7 : ScrN} {x8 : PrtN} {x9 : Nat → Nat} {x10 : Nat → Nat} {y0 : SaleN} : xput ([1, 2, 3, 4, 5, 6, 7, 8] : List Nat) (compW x0 x1 x2 x3 x4 x5 x6 x7 x8 x9 x10).length (compW x0 x1 x2 x3 x4 x5 x6 x7 x8 x9 x10) ([1, 2, 3, 4, 5, 6, 7, 8] : List Nat) (saleW 0 y0) = compW x0 y0 x2 x3 x4 x5 x6 x7 x8 x9 x10 := by
  have e0 : xput ([1, 2, 3, 4, 5, 6, 7, 8] : List Nat) (compW x0 x1 x2 x3 x4 x5 x6 x7 x8 x9 x10).length (compW x0 x1 x2 x3 x4 x5 x6 x7 x8 x9 x10) ([1, 2, 3, 4, 5, 6, 7, 8] : List Nat) (saleW 0 y0) = compW x0 y0 x2 x3 x4 x5 x6 x7 x8 x9 x10 := xput_blk (topW 0 x0) (saleW 1 x1) (saleW 9 x2 ++ (saleW 17 x3 ++ (outW 25 x4 ++ (billW 30 x5 ++ (seaW 35 x6 ++ (scrW 38 x7 ++ (prtW 45 x8 ++ (row5 47 x9 ++ (row7 48 x10))))))))) (saleW 0 y0) rfl
  exact e0
theorem bX6_bids_42_46 {l : Launch} {E : XE} : Snd l E mX6_bids 42 46 (xs [x_aload 0, x_get 7 0]) := Snd.cons (snd_aload_n (i := 0) dX6_bids_42 rfl) (Snd.cons (snd_get (ci := 7) (k := 0) dX6_bids_43 rfl inX6 (by decide) tw_207) Snd.nil)
set_option maxHeartbeats 4000000 in
set_option maxRecDepth 100000 in
theorem p_bids_6c {l : Launch} {E : XE} (T : TopN) (S P U : SaleN) (O : OutN) (B : BillN) (Q : SeaN) (C : ScrN) (R : PrtN) (tl rf : Nat → Nat) (z1 z2 z3 : Int) (hS : SaleOK S) (hQ : Q.fd < 2147483648) (rz1 : -2147483648 ≤ z1 ∧ z1 < 2147483648) (rz2 : -2147483648 ≤ z2 ∧ z2 < 2147483648) (rz3 : -2147483648 ≤ z3 ∧ z3 < 2147483648) (h : 0 ≤ z1 ∧ z1 < 5) (h2 : 1 ≤ z2 ∧ z2 ≤ 63) (h3 : 1 ≤ z3 ∧ z3 ≤ 99) (h4 : S.ca = 10) : MetE l E mX6_bids (1) 0 0 [.ref 0, .int (zI (z1)), .int (zI (z2)), .int (zI (z3))] (compW T S P U O B Q C R tl rf) (CP T S P (C.lt) (C.sz) tl (up rf 6 (rf 6 + 1)) (some (.int (-6)))) := by
  refine MetE.of (by decide +kernel) (Nat.le_of_ble_eq_true rfl) ?_
  have hca := hS.1
  have hpw := pow_ca hS
  have hac := ac_lt hS
  
  refine ev_eq (lv' := [(0, .ref 0), (1, .int (zI (z1))), (2, .int (zI (z2))), (3, .int (zI (z3)))]) (st' := []) (w' := compW T S P U O B Q C R tl rf) rfl rfl rfl ?_
  refine ev_b bX6_bids_0_1 (lv' := [(0, .ref 0), (1, .int (zI (z1))), (2, .int (zI (z2))), (3, .int (zI (z3)))]) (st' := [.int (zI (z1))]) (w2 := compW T S P U O B Q C R tl rf) rfl ?_
  refine ev_callS (Yc := mX6_isBidder) [] dX6_bids_1 tw_437 kX6_isBidder (m_X6_isBidder_z z1 rz1) rfl (st := []) rfl (by decide) rfl (by decide) (Nat.le_of_ble_eq_true rfl) (Nat.le_refl _) (Nat.le_refl _) (fun r w' h => by obtain ⟨-, rfl⟩ := h; exact Nat.le_of_ble_eq_true rfl) ?_
  rintro _ _ ⟨rfl, rfl⟩
  refine ev_eq (lv' := [(0, .ref 0), (1, .int (zI (z1))), (2, .int (zI (z2))), (3, .int (zI (z3)))]) (st' := [.int (nI (b01 (0 ≤ z1 ∧ z1 < 5)))]) (w' := compW T S P U O B Q C R tl rf) rfl rfl rfl ?_
  refine ev_ifne_b (tgt := 13) dX6_bids_4 (by decide) (fun h4 => ?_) (fun h4 => (by exfalso; omega))
  refine ev_b bX6_bids_13_15 (lv' := [(0, .ref 0), (1, .int (zI (z1))), (2, .int (zI (z2))), (3, .int (zI (z3)))]) (st' := [.int (nI (1)), .int (zI (z2))]) (w2 := compW T S P U O B Q C R tl rf) rfl ?_
  refine ev_top (y := zI (((1 : Nat) : Int))) (zI_nat _).symm ?_
  refine ev_icmp_lt_z (tgt := 23) (by constructor <;> omega) (by constructor <;> omega) dX6_bids_15 (by decide) (fun h15 => (by exfalso; omega)) (fun h15 => ?_)
  refine ev_b bX6_bids_18_20 (lv' := [(0, .ref 0), (1, .int (zI (z1))), (2, .int (zI (z2))), (3, .int (zI (z3)))]) (st' := [.int (nI (1)), .int (zI (z3))]) (w2 := compW T S P U O B Q C R tl rf) rfl ?_
  refine ev_top (y := zI (((1 : Nat) : Int))) (zI_nat _).symm ?_
  refine ev_icmp_ge_z (tgt := 30) (by constructor <;> omega) (by constructor <;> omega) dX6_bids_20 (by decide) (fun h20 => ?_) (fun h20 => (by exfalso; omega))
  refine ev_b bX6_bids_30_33 (lv' := [(0, .ref 0), (1, .int (zI (z1))), (2, .int (zI (z2))), (3, .int (zI (z3)))]) (st' := [.int (nI (63)), .int (zI (z2))]) (w2 := compW T S P U O B Q C R tl rf) rfl ?_
  refine ev_top (y := zI (((63 : Nat) : Int))) (zI_nat _).symm ?_
  refine ev_icmp_gt_z (tgt := 52) (by constructor <;> omega) (by constructor <;> omega) dX6_bids_33 (by decide) (fun h33 => (by exfalso; omega)) (fun h33 => ?_)
  refine ev_b bX6_bids_36_39 (lv' := [(0, .ref 0), (1, .int (zI (z1))), (2, .int (zI (z2))), (3, .int (zI (z3)))]) (st' := [.int (nI (99)), .int (zI (z3))]) (w2 := compW T S P U O B Q C R tl rf) rfl ?_
  refine ev_top (y := zI (((99 : Nat) : Int))) (zI_nat _).symm ?_
  refine ev_icmp_gt_z (tgt := 52) (by constructor <;> omega) (by constructor <;> omega) dX6_bids_39 (by decide) (fun h39 => (by exfalso; omega)) (fun h39 => ?_)
  refine ev_b bX6_bids_42_46 (lv' := [(0, .ref 0), (1, .int (zI (z1))), (2, .int (zI (z2))), (3, .int (zI (z3)))]) (st' := [.ref 1]) (w2 := compW T S P U O B Q C R tl rf) rfl ?_
  refine ev_callVN (Yc := mX3_isFull) [1, 2, 3, 4, 5, 6, 7, 8] dX6_bids_46 tn_438 kX3_isFull (m_X3_isFull S hS) rfl (st := []) rfl rfl rfl (by decide) hw_comp__1 (by decide) (Nat.le_of_ble_eq_true rfl) (Nat.le_refl _) (Nat.le_refl _) (fun r w' h => by obtain ⟨-, rfl⟩ := h; exact Nat.le_of_ble_eq_true rfl) ?_
  rintro _ _ ⟨rfl, rfl⟩
  refine ev_eq (lv' := [(0, .ref 0), (1, .int (zI (z1))), (2, .int (zI (z2))), (3, .int (zI (z3)))]) (st' := [.int (nI (b01 (10 ≤ S.ca)))]) (w' := compW T S P U O B Q C R tl rf) rfl rfl xp_comp__1 ?_
  refine ev_ifeq_b (tgt := 59) dX6_bids_49 (by decide) (fun h49 => (by exfalso; omega)) (fun h49 => ?_)
  refine ev_b bX6_bids_52_55 (lv' := [(0, .ref 0), (1, .int (zI (z1))), (2, .int (zI (z2))), (3, .int (zI (z3)))]) (st' := [.int (-6), .ref 0]) (w2 := compW T S P U O B Q C R tl rf) rfl ?_
  refine ev_callV (Yc := mX6_refuse) (rng 0 49) dX6_bids_55 tw_248 kX6_refuse (m_X6_refuse_6 T S P U O B Q C R tl rf) rfl (st := []) rfl rfl rfl (by decide) (same_hw (compW T S P U O B Q C R tl rf)) (by decide) (Nat.le_of_ble_eq_true rfl) (Nat.le_refl _) (Nat.le_refl _) (fun r w' h => by obtain ⟨-, rfl⟩ := h; exact Nat.le_of_ble_eq_true rfl) ?_
  rintro _ _ ⟨rfl, rfl⟩
  refine ev_eq (lv' := [(0, .ref 0), (1, .int (zI (z1))), (2, .int (zI (z2))), (3, .int (zI (z3)))]) (st' := [.int (-6)]) (w' := compW T S P U O B Q C R tl ((up rf 6 (rf 6 + 1)))) rfl rfl (same_xp (compW T S P U O B Q C R tl rf) (compW T S P U O B Q C R tl ((up rf 6 (rf 6 + 1)))) rfl) ?_
  exact ev_iret dX6_bids_58 rfl (Nat.le_refl 49) (Nat.le_refl _) (Nat.le_refl _) ⟨rfl, _, _, _, _, _, _, rfl, hQ, rfl, rfl⟩
theorem bX6_bids_59_66 {l : Launch} {E : XE} : Snd l E mX6_bids 59 66 (xs [x_aload 0, x_get 7 0, x_iload 1, x_iload 2, x_iload 3]) := Snd.cons (snd_aload_n (i := 0) dX6_bids_59 rfl) (Snd.cons (snd_get (ci := 7) (k := 0) dX6_bids_60 rfl inX6 (by decide) tw_207) (Snd.cons (snd_iload_n (i := 1) dX6_bids_63 rfl) (Snd.cons (snd_iload_n (i := 2) dX6_bids_64 rfl) (Snd.cons (snd_iload_n (i := 3) dX6_bids_65 rfl) Snd.nil))))
theorem bX6_bids_69_77 {l : Launch} {E : XE} : Snd l E mX6_bids 69 77 (xs [x_aload 0, x_get 7 0, x_get 4 7, x_push (.int (nI 1))]) := Snd.cons (snd_aload_n (i := 0) dX6_bids_69 rfl) (Snd.cons (snd_get (ci := 7) (k := 0) dX6_bids_70 rfl inX6 (by decide) tw_207) (Snd.cons (snd_getN (ci := 4) (k := 7) dX6_bids_73 rfl inX3 (by decide) tn_44) (Snd.cons (snd_iconst (v := nI 1) dX6_bids_76 (by decide)) Snd.nil)))
set_option maxHeartbeats 4000000 in
set_option maxRecDepth 100000 in
theorem p_bids_ok {l : Launch} {E : XE} (T : TopN) (S P U : SaleN) (O : OutN) (B : BillN) (Q : SeaN) (C : ScrN) (R : PrtN) (tl rf : Nat → Nat) (b set p : Nat) (hS : SaleOK S) (hQ : Q.fd < 2147483648) (hb : b < 5) (hs : 1 ≤ set ∧ set ≤ 63) (hp : 1 ≤ p ∧ p ≤ 99) (hc : S.ca < 10) : MetE l E mX6_bids (2) 0 0 [.ref 0, .int (nI (b)), .int (nI (set)), .int (nI (p))] (compW T S P U O B Q C R tl rf) (CP T (addS S b set p) P (C.lt) (C.sz) tl rf (some (.int (nI (S.ca))))) := by
  refine MetE.of (by decide +kernel) (Nat.le_of_ble_eq_true rfl) ?_
  have hca := hS.1
  have hpw := pow_ca hS
  have hac := ac_lt hS
  
  refine ev_eq (lv' := [(0, .ref 0), (1, .int (nI (b))), (2, .int (nI (set))), (3, .int (nI (p)))]) (st' := []) (w' := compW T S P U O B Q C R tl rf) rfl rfl rfl ?_
  refine ev_b bX6_bids_0_1 (lv' := [(0, .ref 0), (1, .int (nI (b))), (2, .int (nI (set))), (3, .int (nI (p)))]) (st' := [.int (nI (b))]) (w2 := compW T S P U O B Q C R tl rf) rfl ?_
  refine ev_callS (Yc := mX6_isBidder) [] dX6_bids_1 tw_437 kX6_isBidder (m_X6_isBidder b (by omega)) rfl (st := []) rfl (by decide) rfl (by decide) (Nat.le_of_ble_eq_true rfl) (Nat.le_refl _) (Nat.le_refl _) (fun r w' h => by obtain ⟨-, rfl⟩ := h; exact Nat.le_of_ble_eq_true rfl) ?_
  rintro _ _ ⟨rfl, rfl⟩
  refine ev_eq (lv' := [(0, .ref 0), (1, .int (nI (b))), (2, .int (nI (set))), (3, .int (nI (p)))]) (st' := [.int (nI (b01 (b < 5)))]) (w' := compW T S P U O B Q C R tl rf) rfl rfl rfl ?_
  refine ev_ifne_b (tgt := 13) dX6_bids_4 (by decide) (fun h4 => ?_) (fun h4 => (by exfalso; omega))
  refine ev_b bX6_bids_13_15 (lv' := [(0, .ref 0), (1, .int (nI (b))), (2, .int (nI (set))), (3, .int (nI (p)))]) (st' := [.int (nI (1)), .int (nI (set))]) (w2 := compW T S P U O B Q C R tl rf) rfl ?_
  refine ev_icmp_lt_n (tgt := 23) (by omega) (by decide) dX6_bids_15 (by decide) (fun h15 => (by exfalso; omega)) (fun h15 => ?_)
  refine ev_b bX6_bids_18_20 (lv' := [(0, .ref 0), (1, .int (nI (b))), (2, .int (nI (set))), (3, .int (nI (p)))]) (st' := [.int (nI (1)), .int (nI (p))]) (w2 := compW T S P U O B Q C R tl rf) rfl ?_
  refine ev_icmp_ge_n (tgt := 30) (by omega) (by decide) dX6_bids_20 (by decide) (fun h20 => ?_) (fun h20 => (by exfalso; omega))
  refine ev_b bX6_bids_30_33 (lv' := [(0, .ref 0), (1, .int (nI (b))), (2, .int (nI (set))), (3, .int (nI (p)))]) (st' := [.int (nI (63)), .int (nI (set))]) (w2 := compW T S P U O B Q C R tl rf) rfl ?_
  refine ev_icmp_gt_n (tgt := 52) (by omega) (by decide) dX6_bids_33 (by decide) (fun h33 => (by exfalso; omega)) (fun h33 => ?_)
  refine ev_b bX6_bids_36_39 (lv' := [(0, .ref 0), (1, .int (nI (b))), (2, .int (nI (set))), (3, .int (nI (p)))]) (st' := [.int (nI (99)), .int (nI (p))]) (w2 := compW T S P U O B Q C R tl rf) rfl ?_
  refine ev_icmp_gt_n (tgt := 52) (by omega) (by decide) dX6_bids_39 (by decide) (fun h39 => (by exfalso; omega)) (fun h39 => ?_)
  refine ev_b bX6_bids_42_46 (lv' := [(0, .ref 0), (1, .int (nI (b))), (2, .int (nI (set))), (3, .int (nI (p)))]) (st' := [.ref 1]) (w2 := compW T S P U O B Q C R tl rf) rfl ?_
  refine ev_callVN (Yc := mX3_isFull) [1, 2, 3, 4, 5, 6, 7, 8] dX6_bids_46 tn_438 kX3_isFull (m_X3_isFull S hS) rfl (st := []) rfl rfl rfl (by decide) hw_comp__1 (by decide) (Nat.le_of_ble_eq_true rfl) (Nat.le_refl _) (Nat.le_refl _) (fun r w' h => by obtain ⟨-, rfl⟩ := h; exact Nat.le_of_ble_eq_true rfl) ?_
  rintro _ _ ⟨rfl, rfl⟩
  refine ev_eq (lv' := [(0, .ref 0), (1, .int (nI (b))), (2, .int (nI (set))), (3, .int (nI (p)))]) (st' := [.int (nI (b01 (10 ≤ S.ca)))]) (w' := compW T S P U O B Q C R tl rf) rfl rfl xp_comp__1 ?_
  refine ev_ifeq_b (tgt := 59) dX6_bids_49 (by decide) (fun h49 => ?_) (fun h49 => (by exfalso; omega))
  refine ev_b bX6_bids_59_66 (lv' := [(0, .ref 0), (1, .int (nI (b))), (2, .int (nI (set))), (3, .int (nI (p)))]) (st' := [.int (nI (p)), .int (nI (set)), .int (nI (b)), .ref 1]) (w2 := compW T S P U O B Q C R tl rf) rfl ?_
  refine ev_callVN (Yc := mX3_addBid) [1, 2, 3, 4, 5, 6, 7, 8] dX6_bids_66 tn_439 kX3_addBid (m_X3_addBid S b set p hS hc hb) rfl (st := []) rfl rfl rfl (by decide) hw_comp__1 (by decide) (Nat.le_of_ble_eq_true rfl) (Nat.le_refl _) (Nat.le_refl _) (fun r w' h => by obtain ⟨-, rfl⟩ := h; exact Nat.le_of_ble_eq_true rfl) ?_
  rintro _ _ ⟨rfl, rfl⟩
  refine ev_eq (lv' := [(0, .ref 0), (1, .int (nI (b))), (2, .int (nI (set))), (3, .int (nI (p)))]) (st' := []) (w' := compW T ((addS S b set p)) P U O B Q C R tl rf) rfl rfl xp_comp__1 ?_
  refine ev_b bX6_bids_69_77 (lv' := [(0, .ref 0), (1, .int (nI (b))), (2, .int (nI (set))), (3, .int (nI (p)))]) (st' := [.int (nI (1)), .int (nI (SaleN.ca ((addS S b set p))))]) (w2 := compW T ((addS S b set p)) P U O B Q C R tl rf) rfl ?_
  have hca2 : SaleN.ca (addS S b set p) = S.ca + 1 := rfl
  refine ev_isub_n (by omega) dX6_bids_77 ?_
  exact ev_iret dX6_bids_78 rfl (Nat.le_refl 49) (Nat.le_refl _) (Nat.le_refl _) ⟨rfl, _, _, _, _, _, _, rfl, hQ, rfl, rfl⟩
theorem bX6_turns_0_5 {l : Launch} {E : XE} : Snd l E mX6_turns 0 5 (xs [x_aload 0, x_get 7 0, x_iload 1]) := Snd.cons (snd_aload_n (i := 0) dX6_turns_0 rfl) (Snd.cons (snd_get (ci := 7) (k := 0) dX6_turns_1 rfl inX6 (by decide) tw_207) (Snd.cons (snd_iload_n (i := 1) dX6_turns_4 rfl) Snd.nil))
theorem bX6_turns_11_13 {l : Launch} {E : XE} : Snd l E mX6_turns 11 13 (xs [x_aload 0, x_push (.int (-1))]) := Snd.cons (snd_aload_n (i := 0) dX6_turns_11 rfl) (Snd.cons (snd_iconst (v := -1) dX6_turns_12 (by decide)) Snd.nil)
set_option maxHeartbeats 4000000 in
set_option maxRecDepth 100000 in
theorem p_turns_1 {l : Launch} {E : XE} (T : TopN) (S P U : SaleN) (O : OutN) (B : BillN) (Q : SeaN) (C : ScrN) (R : PrtN) (tl rf : Nat → Nat) (z1 : Int) (hS : SaleOK S) (hQ : Q.fd < 2147483648) (rz1 : -2147483648 ≤ z1 ∧ z1 < 2147483648) (h : ¬ (0 ≤ z1 ∧ z1 < S.ca)) : MetE l E mX6_turns (1) 0 0 [.ref 0, .int (zI (z1))] (compW T S P U O B Q C R tl rf) (CP T S P (C.lt) (C.sz) tl (up rf 1 (rf 1 + 1)) (some (.int (-1)))) := by
  refine MetE.of (by decide +kernel) (Nat.le_of_ble_eq_true rfl) ?_
  have hca := hS.1
  have hpw := pow_ca hS
  have hac := ac_lt hS
  
  refine ev_eq (lv' := [(0, .ref 0), (1, .int (zI (z1)))]) (st' := []) (w' := compW T S P U O B Q C R tl rf) rfl rfl rfl ?_
  refine ev_b bX6_turns_0_5 (lv' := [(0, .ref 0), (1, .int (zI (z1)))]) (st' := [.int (zI (z1)), .ref 1]) (w2 := compW T S P U O B Q C R tl rf) rfl ?_
  refine ev_callVN (Yc := mX3_hasBid) [1, 2, 3, 4, 5, 6, 7, 8] dX6_turns_5 tn_444 kX3_hasBid (m_X3_hasBid_z S z1 hS rz1) rfl (st := []) rfl rfl rfl (by decide) hw_comp__1 (by decide) (Nat.le_of_ble_eq_true rfl) (Nat.le_refl _) (Nat.le_refl _) (fun r w' h => by obtain ⟨-, rfl⟩ := h; exact Nat.le_of_ble_eq_true rfl) ?_
  rintro _ _ ⟨rfl, rfl⟩
  refine ev_eq (lv' := [(0, .ref 0), (1, .int (zI (z1)))]) (st' := [.int (nI (b01 (0 ≤ z1 ∧ z1 < S.ca)))]) (w' := compW T S P U O B Q C R tl rf) rfl rfl xp_comp__1 ?_
  refine ev_ifne_b (tgt := 17) dX6_turns_8 (by decide) (fun h8 => (by exfalso; omega)) (fun h8 => ?_)
  refine ev_b bX6_turns_11_13 (lv' := [(0, .ref 0), (1, .int (zI (z1)))]) (st' := [.int (-1), .ref 0]) (w2 := compW T S P U O B Q C R tl rf) rfl ?_
  refine ev_callV (Yc := mX6_refuse) (rng 0 49) dX6_turns_13 tw_248 kX6_refuse (m_X6_refuse_1 T S P U O B Q C R tl rf) rfl (st := []) rfl rfl rfl (by decide) (same_hw (compW T S P U O B Q C R tl rf)) (by decide) (Nat.le_of_ble_eq_true rfl) (Nat.le_refl _) (Nat.le_refl _) (fun r w' h => by obtain ⟨-, rfl⟩ := h; exact Nat.le_of_ble_eq_true rfl) ?_
  rintro _ _ ⟨rfl, rfl⟩
  refine ev_eq (lv' := [(0, .ref 0), (1, .int (zI (z1)))]) (st' := [.int (-1)]) (w' := compW T S P U O B Q C R tl ((up rf 1 (rf 1 + 1)))) rfl rfl (same_xp (compW T S P U O B Q C R tl rf) (compW T S P U O B Q C R tl ((up rf 1 (rf 1 + 1)))) rfl) ?_
  exact ev_iret dX6_turns_16 rfl (Nat.le_refl 49) (Nat.le_refl _) (Nat.le_refl _) ⟨rfl, _, _, _, _, _, _, rfl, hQ, rfl, rfl⟩
theorem bX6_turns_17_22 {l : Launch} {E : XE} : Snd l E mX6_turns 17 22 (xs [x_aload 0, x_get 7 0, x_iload 1]) := Snd.cons (snd_aload_n (i := 0) dX6_turns_17 rfl) (Snd.cons (snd_get (ci := 7) (k := 0) dX6_turns_18 rfl inX6 (by decide) tw_207) (Snd.cons (snd_iload_n (i := 1) dX6_turns_21 rfl) Snd.nil))
theorem bX6_turns_25_33 {l : Launch} {E : XE} : Snd l E mX6_turns 25 33 (xs [x_aload 0, x_get 7 0, x_get 4 8, x_iload 1]) := Snd.cons (snd_aload_n (i := 0) dX6_turns_25 rfl) (Snd.cons (snd_get (ci := 7) (k := 0) dX6_turns_26 rfl inX6 (by decide) tw_207) (Snd.cons (snd_getN (ci := 4) (k := 8) dX6_turns_29 rfl inX3 (by decide) tn_48) (Snd.cons (snd_iload_n (i := 1) dX6_turns_32 rfl) Snd.nil)))
set_option maxHeartbeats 4000000 in
set_option maxRecDepth 100000 in
theorem p_turns_ok {l : Launch} {E : XE} (T : TopN) (S P U : SaleN) (O : OutN) (B : BillN) (Q : SeaN) (C : ScrN) (R : PrtN) (tl rf : Nat → Nat) (k : Nat) (hS : SaleOK S) (hQ : Q.fd < 2147483648) (hk : k < S.ca) : MetE l E mX6_turns (2) 0 0 [.ref 0, .int (nI (k))] (compW T S P U O B Q C R tl rf) (CP T (turnS S k) P (C.lt) (C.sz) tl rf (some (.int (nI (b01 ((SaleN.ac (turnS S k)).testBit k = true)))))) := by
  refine MetE.of (by decide +kernel) (Nat.le_of_ble_eq_true rfl) ?_
  have hca := hS.1
  have hpw := pow_ca hS
  have hac := ac_lt hS
  
  refine ev_eq (lv' := [(0, .ref 0), (1, .int (nI (k)))]) (st' := []) (w' := compW T S P U O B Q C R tl rf) rfl rfl rfl ?_
  refine ev_b bX6_turns_0_5 (lv' := [(0, .ref 0), (1, .int (nI (k)))]) (st' := [.int (nI (k)), .ref 1]) (w2 := compW T S P U O B Q C R tl rf) rfl ?_
  refine ev_callVN (Yc := mX3_hasBid) [1, 2, 3, 4, 5, 6, 7, 8] dX6_turns_5 tn_444 kX3_hasBid (m_X3_hasBid S k hS (by omega)) rfl (st := []) rfl rfl rfl (by decide) hw_comp__1 (by decide) (Nat.le_of_ble_eq_true rfl) (Nat.le_refl _) (Nat.le_refl _) (fun r w' h => by obtain ⟨-, rfl⟩ := h; exact Nat.le_of_ble_eq_true rfl) ?_
  rintro _ _ ⟨rfl, rfl⟩
  refine ev_eq (lv' := [(0, .ref 0), (1, .int (nI (k)))]) (st' := [.int (nI (b01 (k < S.ca)))]) (w' := compW T S P U O B Q C R tl rf) rfl rfl xp_comp__1 ?_
  refine ev_ifne_b (tgt := 17) dX6_turns_8 (by decide) (fun h8 => ?_) (fun h8 => (by exfalso; omega))
  refine ev_b bX6_turns_17_22 (lv' := [(0, .ref 0), (1, .int (nI (k)))]) (st' := [.int (nI (k)), .ref 1]) (w2 := compW T S P U O B Q C R tl rf) rfl ?_
  refine ev_callVN (Yc := mX3_turnOver) [1, 2, 3, 4, 5, 6, 7, 8] dX6_turns_22 tn_445 kX3_turnOver (m_X3_turnOver S k hS hk) rfl (st := []) rfl rfl rfl (by decide) hw_comp__1 (by decide) (Nat.le_of_ble_eq_true rfl) (Nat.le_refl _) (Nat.le_refl _) (fun r w' h => by obtain ⟨-, rfl⟩ := h; exact Nat.le_of_ble_eq_true rfl) ?_
  rintro _ _ ⟨rfl, rfl⟩
  refine ev_eq (lv' := [(0, .ref 0), (1, .int (nI (k)))]) (st' := []) (w' := compW T ((turnS S k)) P U O B Q C R tl rf) rfl rfl xp_comp__1 ?_
  refine ev_b bX6_turns_25_33 (lv' := [(0, .ref 0), (1, .int (nI (k)))]) (st' := [.int (nI (k)), .int (nI (SaleN.ac ((turnS S k))))]) (w2 := compW T ((turnS S k)) P U O B Q C R tl rf) rfl ?_
  refine ev_callS (Yc := mX6_bitAt) [] dX6_turns_33 tw_446 kX6_bitAt (m_X6_bitAt (SaleN.ac (turnS S k)) k (turn_lt hS hk) (by omega)) rfl (st := []) rfl (by decide) rfl (by decide) (Nat.le_of_ble_eq_true rfl) (Nat.le_refl _) (Nat.le_refl _) (fun r w' h => by obtain ⟨-, rfl⟩ := h; exact Nat.le_of_ble_eq_true rfl) ?_
  rintro _ _ ⟨rfl, rfl⟩
  refine ev_eq (lv' := [(0, .ref 0), (1, .int (nI (k)))]) (st' := [.int (nI (b01 ((SaleN.ac (turnS S k)).testBit k = true)))]) (w' := compW T ((turnS S k)) P U O B Q C R tl rf) rfl rfl rfl ?_
  exact ev_iret dX6_turns_36 rfl (Nat.le_refl 49) (Nat.le_refl _) (Nat.le_refl _) ⟨rfl, _, _, _, _, _, _, rfl, hQ, rfl, rfl⟩
theorem bX6_price_0_5 {l : Launch} {E : XE} : Snd l E mX6_price 0 5 (xs [x_aload 0, x_get 7 0, x_iload 1]) := Snd.cons (snd_aload_n (i := 0) dX6_price_0 rfl) (Snd.cons (snd_get (ci := 7) (k := 0) dX6_price_1 rfl inX6 (by decide) tw_207) (Snd.cons (snd_iload_n (i := 1) dX6_price_4 rfl) Snd.nil))
theorem bX6_price_11_13 {l : Launch} {E : XE} : Snd l E mX6_price 11 13 (xs [x_aload 0, x_push (.int (-1))]) := Snd.cons (snd_aload_n (i := 0) dX6_price_11 rfl) (Snd.cons (snd_iconst (v := -1) dX6_price_12 (by decide)) Snd.nil)
set_option maxHeartbeats 4000000 in
set_option maxRecDepth 100000 in
theorem p_price_1 {l : Launch} {E : XE} (T : TopN) (S P U : SaleN) (O : OutN) (B : BillN) (Q : SeaN) (C : ScrN) (R : PrtN) (tl rf : Nat → Nat) (z1 z2 : Int) (hS : SaleOK S) (hQ : Q.fd < 2147483648) (rz1 : -2147483648 ≤ z1 ∧ z1 < 2147483648) (rz2 : -2147483648 ≤ z2 ∧ z2 < 2147483648) (h : ¬ (0 ≤ z1 ∧ z1 < S.ca)) : MetE l E mX6_price (1) 0 0 [.ref 0, .int (zI (z1)), .int (zI (z2))] (compW T S P U O B Q C R tl rf) (CP T S P (C.lt) (C.sz) tl (up rf 1 (rf 1 + 1)) (some (.int (-1)))) := by
  refine MetE.of (by decide +kernel) (Nat.le_of_ble_eq_true rfl) ?_
  have hca := hS.1
  have hpw := pow_ca hS
  have hac := ac_lt hS
  
  refine ev_eq (lv' := [(0, .ref 0), (1, .int (zI (z1))), (2, .int (zI (z2)))]) (st' := []) (w' := compW T S P U O B Q C R tl rf) rfl rfl rfl ?_
  refine ev_b bX6_price_0_5 (lv' := [(0, .ref 0), (1, .int (zI (z1))), (2, .int (zI (z2)))]) (st' := [.int (zI (z1)), .ref 1]) (w2 := compW T S P U O B Q C R tl rf) rfl ?_
  refine ev_callVN (Yc := mX3_hasBid) [1, 2, 3, 4, 5, 6, 7, 8] dX6_price_5 tn_444 kX3_hasBid (m_X3_hasBid_z S z1 hS rz1) rfl (st := []) rfl rfl rfl (by decide) hw_comp__1 (by decide) (Nat.le_of_ble_eq_true rfl) (Nat.le_refl _) (Nat.le_refl _) (fun r w' h => by obtain ⟨-, rfl⟩ := h; exact Nat.le_of_ble_eq_true rfl) ?_
  rintro _ _ ⟨rfl, rfl⟩
  refine ev_eq (lv' := [(0, .ref 0), (1, .int (zI (z1))), (2, .int (zI (z2)))]) (st' := [.int (nI (b01 (0 ≤ z1 ∧ z1 < S.ca)))]) (w' := compW T S P U O B Q C R tl rf) rfl rfl xp_comp__1 ?_
  refine ev_ifne_b (tgt := 17) dX6_price_8 (by decide) (fun h8 => (by exfalso; omega)) (fun h8 => ?_)
  refine ev_b bX6_price_11_13 (lv' := [(0, .ref 0), (1, .int (zI (z1))), (2, .int (zI (z2)))]) (st' := [.int (-1), .ref 0]) (w2 := compW T S P U O B Q C R tl rf) rfl ?_
  refine ev_callV (Yc := mX6_refuse) (rng 0 49) dX6_price_13 tw_248 kX6_refuse (m_X6_refuse_1 T S P U O B Q C R tl rf) rfl (st := []) rfl rfl rfl (by decide) (same_hw (compW T S P U O B Q C R tl rf)) (by decide) (Nat.le_of_ble_eq_true rfl) (Nat.le_refl _) (Nat.le_refl _) (fun r w' h => by obtain ⟨-, rfl⟩ := h; exact Nat.le_of_ble_eq_true rfl) ?_
  rintro _ _ ⟨rfl, rfl⟩
  refine ev_eq (lv' := [(0, .ref 0), (1, .int (zI (z1))), (2, .int (zI (z2)))]) (st' := [.int (-1)]) (w' := compW T S P U O B Q C R tl ((up rf 1 (rf 1 + 1)))) rfl rfl (same_xp (compW T S P U O B Q C R tl rf) (compW T S P U O B Q C R tl ((up rf 1 (rf 1 + 1)))) rfl) ?_
  exact ev_iret dX6_price_16 rfl (Nat.le_refl 49) (Nat.le_refl _) (Nat.le_refl _) ⟨rfl, _, _, _, _, _, _, rfl, hQ, rfl, rfl⟩
theorem bX6_price_17_19 {l : Launch} {E : XE} : Snd l E mX6_price 17 19 (xs [x_iload 2, x_push (.int (nI 1))]) := Snd.cons (snd_iload_n (i := 2) dX6_price_17 rfl) (Snd.cons (snd_iconst (v := nI 1) dX6_price_18 (by decide)) Snd.nil)
theorem bX6_price_22_25 {l : Launch} {E : XE} : Snd l E mX6_price 22 25 (xs [x_aload 0, x_push (.int (-4))]) := Snd.cons (snd_aload_n (i := 0) dX6_price_22 rfl) (Snd.cons (snd_bipush (v := -4) dX6_price_23 (by decide)) Snd.nil)
set_option maxHeartbeats 4000000 in
set_option maxRecDepth 100000 in
theorem p_price_4 {l : Launch} {E : XE} (T : TopN) (S P U : SaleN) (O : OutN) (B : BillN) (Q : SeaN) (C : ScrN) (R : PrtN) (tl rf : Nat → Nat) (z1 z2 : Int) (hS : SaleOK S) (hQ : Q.fd < 2147483648) (rz1 : -2147483648 ≤ z1 ∧ z1 < 2147483648) (rz2 : -2147483648 ≤ z2 ∧ z2 < 2147483648) (h : 0 ≤ z1 ∧ z1 < S.ca) (h2 : z2 < 1) : MetE l E mX6_price (1) 0 0 [.ref 0, .int (zI (z1)), .int (zI (z2))] (compW T S P U O B Q C R tl rf) (CP T S P (C.lt) (C.sz) tl (up rf 4 (rf 4 + 1)) (some (.int (-4)))) := by
  refine MetE.of (by decide +kernel) (Nat.le_of_ble_eq_true rfl) ?_
  have hca := hS.1
  have hpw := pow_ca hS
  have hac := ac_lt hS
  
  refine ev_eq (lv' := [(0, .ref 0), (1, .int (zI (z1))), (2, .int (zI (z2)))]) (st' := []) (w' := compW T S P U O B Q C R tl rf) rfl rfl rfl ?_
  refine ev_b bX6_price_0_5 (lv' := [(0, .ref 0), (1, .int (zI (z1))), (2, .int (zI (z2)))]) (st' := [.int (zI (z1)), .ref 1]) (w2 := compW T S P U O B Q C R tl rf) rfl ?_
  refine ev_callVN (Yc := mX3_hasBid) [1, 2, 3, 4, 5, 6, 7, 8] dX6_price_5 tn_444 kX3_hasBid (m_X3_hasBid_z S z1 hS rz1) rfl (st := []) rfl rfl rfl (by decide) hw_comp__1 (by decide) (Nat.le_of_ble_eq_true rfl) (Nat.le_refl _) (Nat.le_refl _) (fun r w' h => by obtain ⟨-, rfl⟩ := h; exact Nat.le_of_ble_eq_true rfl) ?_
  rintro _ _ ⟨rfl, rfl⟩
  refine ev_eq (lv' := [(0, .ref 0), (1, .int (zI (z1))), (2, .int (zI (z2)))]) (st' := [.int (nI (b01 (0 ≤ z1 ∧ z1 < S.ca)))]) (w' := compW T S P U O B Q C R tl rf) rfl rfl xp_comp__1 ?_
  refine ev_ifne_b (tgt := 17) dX6_price_8 (by decide) (fun h8 => ?_) (fun h8 => (by exfalso; omega))
  refine ev_b bX6_price_17_19 (lv' := [(0, .ref 0), (1, .int (zI (z1))), (2, .int (zI (z2)))]) (st' := [.int (nI (1)), .int (zI (z2))]) (w2 := compW T S P U O B Q C R tl rf) rfl ?_
  refine ev_top (y := zI (((1 : Nat) : Int))) (zI_nat _).symm ?_
  refine ev_icmp_ge_z (tgt := 29) (by constructor <;> omega) (by constructor <;> omega) dX6_price_19 (by decide) (fun h19 => (by exfalso; omega)) (fun h19 => ?_)
  refine ev_b bX6_price_22_25 (lv' := [(0, .ref 0), (1, .int (zI (z1))), (2, .int (zI (z2)))]) (st' := [.int (-4), .ref 0]) (w2 := compW T S P U O B Q C R tl rf) rfl ?_
  refine ev_callV (Yc := mX6_refuse) (rng 0 49) dX6_price_25 tw_248 kX6_refuse (m_X6_refuse_4 T S P U O B Q C R tl rf) rfl (st := []) rfl rfl rfl (by decide) (same_hw (compW T S P U O B Q C R tl rf)) (by decide) (Nat.le_of_ble_eq_true rfl) (Nat.le_refl _) (Nat.le_refl _) (fun r w' h => by obtain ⟨-, rfl⟩ := h; exact Nat.le_of_ble_eq_true rfl) ?_
  rintro _ _ ⟨rfl, rfl⟩
  refine ev_eq (lv' := [(0, .ref 0), (1, .int (zI (z1))), (2, .int (zI (z2)))]) (st' := [.int (-4)]) (w' := compW T S P U O B Q C R tl ((up rf 4 (rf 4 + 1)))) rfl rfl (same_xp (compW T S P U O B Q C R tl rf) (compW T S P U O B Q C R tl ((up rf 4 (rf 4 + 1)))) rfl) ?_
  exact ev_iret dX6_price_28 rfl (Nat.le_refl 49) (Nat.le_refl _) (Nat.le_refl _) ⟨rfl, _, _, _, _, _, _, rfl, hQ, rfl, rfl⟩
theorem bX6_price_29_32 {l : Launch} {E : XE} : Snd l E mX6_price 29 32 (xs [x_iload 2, x_push (.int (nI 99))]) := Snd.cons (snd_iload_n (i := 2) dX6_price_29 rfl) (Snd.cons (snd_bipush (v := nI 99) dX6_price_30 (by decide)) Snd.nil)
theorem bX6_price_35_38 {l : Launch} {E : XE} : Snd l E mX6_price 35 38 (xs [x_aload 0, x_push (.int (-6))]) := Snd.cons (snd_aload_n (i := 0) dX6_price_35 rfl) (Snd.cons (snd_bipush (v := -6) dX6_price_36 (by decide)) Snd.nil)
set_option maxHeartbeats 4000000 in
set_option maxRecDepth 100000 in
theorem p_price_6 {l : Launch} {E : XE} (T : TopN) (S P U : SaleN) (O : OutN) (B : BillN) (Q : SeaN) (C : ScrN) (R : PrtN) (tl rf : Nat → Nat) (z1 z2 : Int) (hS : SaleOK S) (hQ : Q.fd < 2147483648) (rz1 : -2147483648 ≤ z1 ∧ z1 < 2147483648) (rz2 : -2147483648 ≤ z2 ∧ z2 < 2147483648) (h : 0 ≤ z1 ∧ z1 < S.ca) (h2 : 99 < z2) : MetE l E mX6_price (1) 0 0 [.ref 0, .int (zI (z1)), .int (zI (z2))] (compW T S P U O B Q C R tl rf) (CP T S P (C.lt) (C.sz) tl (up rf 6 (rf 6 + 1)) (some (.int (-6)))) := by
  refine MetE.of (by decide +kernel) (Nat.le_of_ble_eq_true rfl) ?_
  have hca := hS.1
  have hpw := pow_ca hS
  have hac := ac_lt hS
  
  refine ev_eq (lv' := [(0, .ref 0), (1, .int (zI (z1))), (2, .int (zI (z2)))]) (st' := []) (w' := compW T S P U O B Q C R tl rf) rfl rfl rfl ?_
  refine ev_b bX6_price_0_5 (lv' := [(0, .ref 0), (1, .int (zI (z1))), (2, .int (zI (z2)))]) (st' := [.int (zI (z1)), .ref 1]) (w2 := compW T S P U O B Q C R tl rf) rfl ?_
  refine ev_callVN (Yc := mX3_hasBid) [1, 2, 3, 4, 5, 6, 7, 8] dX6_price_5 tn_444 kX3_hasBid (m_X3_hasBid_z S z1 hS rz1) rfl (st := []) rfl rfl rfl (by decide) hw_comp__1 (by decide) (Nat.le_of_ble_eq_true rfl) (Nat.le_refl _) (Nat.le_refl _) (fun r w' h => by obtain ⟨-, rfl⟩ := h; exact Nat.le_of_ble_eq_true rfl) ?_
  rintro _ _ ⟨rfl, rfl⟩
  refine ev_eq (lv' := [(0, .ref 0), (1, .int (zI (z1))), (2, .int (zI (z2)))]) (st' := [.int (nI (b01 (0 ≤ z1 ∧ z1 < S.ca)))]) (w' := compW T S P U O B Q C R tl rf) rfl rfl xp_comp__1 ?_
  refine ev_ifne_b (tgt := 17) dX6_price_8 (by decide) (fun h8 => ?_) (fun h8 => (by exfalso; omega))
  refine ev_b bX6_price_17_19 (lv' := [(0, .ref 0), (1, .int (zI (z1))), (2, .int (zI (z2)))]) (st' := [.int (nI (1)), .int (zI (z2))]) (w2 := compW T S P U O B Q C R tl rf) rfl ?_
  refine ev_top (y := zI (((1 : Nat) : Int))) (zI_nat _).symm ?_
  refine ev_icmp_ge_z (tgt := 29) (by constructor <;> omega) (by constructor <;> omega) dX6_price_19 (by decide) (fun h19 => ?_) (fun h19 => (by exfalso; omega))
  refine ev_b bX6_price_29_32 (lv' := [(0, .ref 0), (1, .int (zI (z1))), (2, .int (zI (z2)))]) (st' := [.int (nI (99)), .int (zI (z2))]) (w2 := compW T S P U O B Q C R tl rf) rfl ?_
  refine ev_top (y := zI (((99 : Nat) : Int))) (zI_nat _).symm ?_
  refine ev_icmp_le_z (tgt := 42) (by constructor <;> omega) (by constructor <;> omega) dX6_price_32 (by decide) (fun h32 => (by exfalso; omega)) (fun h32 => ?_)
  refine ev_b bX6_price_35_38 (lv' := [(0, .ref 0), (1, .int (zI (z1))), (2, .int (zI (z2)))]) (st' := [.int (-6), .ref 0]) (w2 := compW T S P U O B Q C R tl rf) rfl ?_
  refine ev_callV (Yc := mX6_refuse) (rng 0 49) dX6_price_38 tw_248 kX6_refuse (m_X6_refuse_6 T S P U O B Q C R tl rf) rfl (st := []) rfl rfl rfl (by decide) (same_hw (compW T S P U O B Q C R tl rf)) (by decide) (Nat.le_of_ble_eq_true rfl) (Nat.le_refl _) (Nat.le_refl _) (fun r w' h => by obtain ⟨-, rfl⟩ := h; exact Nat.le_of_ble_eq_true rfl) ?_
  rintro _ _ ⟨rfl, rfl⟩
  refine ev_eq (lv' := [(0, .ref 0), (1, .int (zI (z1))), (2, .int (zI (z2)))]) (st' := [.int (-6)]) (w' := compW T S P U O B Q C R tl ((up rf 6 (rf 6 + 1)))) rfl rfl (same_xp (compW T S P U O B Q C R tl rf) (compW T S P U O B Q C R tl ((up rf 6 (rf 6 + 1)))) rfl) ?_
  exact ev_iret dX6_price_41 rfl (Nat.le_refl 49) (Nat.le_refl _) (Nat.le_refl _) ⟨rfl, _, _, _, _, _, _, rfl, hQ, rfl, rfl⟩
theorem bX6_price_42_47 {l : Launch} {E : XE} : Snd l E mX6_price 42 47 (xs [x_aload 0, x_get 7 0, x_iload 1]) := Snd.cons (snd_aload_n (i := 0) dX6_price_42 rfl) (Snd.cons (snd_get (ci := 7) (k := 0) dX6_price_43 rfl inX6 (by decide) tw_207) (Snd.cons (snd_iload_n (i := 1) dX6_price_46 rfl) Snd.nil))
theorem bX6_price_50_57 {l : Launch} {E : XE} : Snd l E mX6_price 50 57 (xs [x_istore 3, x_aload 0, x_get 7 0, x_iload 1, x_iload 2]) := Snd.cons (snd_istore_n (i := 3) dX6_price_50 rfl (by decide)) (Snd.cons (snd_aload_n (i := 0) dX6_price_51 rfl) (Snd.cons (snd_get (ci := 7) (k := 0) dX6_price_52 rfl inX6 (by decide) tw_207) (Snd.cons (snd_iload_n (i := 1) dX6_price_55 rfl) (Snd.cons (snd_iload_n (i := 2) dX6_price_56 rfl) Snd.nil))))
theorem bX6_price_60_61 {l : Launch} {E : XE} : Snd l E mX6_price 60 61 (xs [x_iload 3]) := Snd.cons (snd_iload_n (i := 3) dX6_price_60 rfl) Snd.nil
set_option maxHeartbeats 4000000 in
set_option maxRecDepth 100000 in
theorem p_price_ok {l : Launch} {E : XE} (T : TopN) (S P U : SaleN) (O : OutN) (B : BillN) (Q : SeaN) (C : ScrN) (R : PrtN) (tl rf : Nat → Nat) (k p : Nat) (hS : SaleOK S) (hQ : Q.fd < 2147483648) (hk : k < S.ca) (hp : 1 ≤ p ∧ p ≤ 99) : MetE l E mX6_price (2) 0 0 [.ref 0, .int (nI (k)), .int (nI (p))] (compW T S P U O B Q C R tl rf) (CP T (priceS S k p) P (C.lt) (C.sz) tl rf (some (.int (nI (S.pr k))))) := by
  refine MetE.of (by decide +kernel) (Nat.le_of_ble_eq_true rfl) ?_
  have hca := hS.1
  have hpw := pow_ca hS
  have hac := ac_lt hS
  
  refine ev_eq (lv' := [(0, .ref 0), (1, .int (nI (k))), (2, .int (nI (p)))]) (st' := []) (w' := compW T S P U O B Q C R tl rf) rfl rfl rfl ?_
  refine ev_b bX6_price_0_5 (lv' := [(0, .ref 0), (1, .int (nI (k))), (2, .int (nI (p)))]) (st' := [.int (nI (k)), .ref 1]) (w2 := compW T S P U O B Q C R tl rf) rfl ?_
  refine ev_callVN (Yc := mX3_hasBid) [1, 2, 3, 4, 5, 6, 7, 8] dX6_price_5 tn_444 kX3_hasBid (m_X3_hasBid S k hS (by omega)) rfl (st := []) rfl rfl rfl (by decide) hw_comp__1 (by decide) (Nat.le_of_ble_eq_true rfl) (Nat.le_refl _) (Nat.le_refl _) (fun r w' h => by obtain ⟨-, rfl⟩ := h; exact Nat.le_of_ble_eq_true rfl) ?_
  rintro _ _ ⟨rfl, rfl⟩
  refine ev_eq (lv' := [(0, .ref 0), (1, .int (nI (k))), (2, .int (nI (p)))]) (st' := [.int (nI (b01 (k < S.ca)))]) (w' := compW T S P U O B Q C R tl rf) rfl rfl xp_comp__1 ?_
  refine ev_ifne_b (tgt := 17) dX6_price_8 (by decide) (fun h8 => ?_) (fun h8 => (by exfalso; omega))
  refine ev_b bX6_price_17_19 (lv' := [(0, .ref 0), (1, .int (nI (k))), (2, .int (nI (p)))]) (st' := [.int (nI (1)), .int (nI (p))]) (w2 := compW T S P U O B Q C R tl rf) rfl ?_
  refine ev_icmp_ge_n (tgt := 29) (by omega) (by decide) dX6_price_19 (by decide) (fun h19 => ?_) (fun h19 => (by exfalso; omega))
  refine ev_b bX6_price_29_32 (lv' := [(0, .ref 0), (1, .int (nI (k))), (2, .int (nI (p)))]) (st' := [.int (nI (99)), .int (nI (p))]) (w2 := compW T S P U O B Q C R tl rf) rfl ?_
  refine ev_icmp_le_n (tgt := 42) (by omega) (by decide) dX6_price_32 (by decide) (fun h32 => ?_) (fun h32 => (by exfalso; omega))
  refine ev_b bX6_price_42_47 (lv' := [(0, .ref 0), (1, .int (nI (k))), (2, .int (nI (p)))]) (st' := [.int (nI (k)), .ref 1]) (w2 := compW T S P U O B Q C R tl rf) rfl ?_
  refine ev_callVN (Yc := mX3_priceOf) [1, 2, 3, 4, 5, 6, 7, 8] dX6_price_47 tn_453 kX3_priceOf (m_X3_priceOf S k hS hk) rfl (st := []) rfl rfl rfl (by decide) hw_comp__1 (by decide) (Nat.le_of_ble_eq_true rfl) (Nat.le_refl _) (Nat.le_refl _) (fun r w' h => by obtain ⟨-, rfl⟩ := h; exact Nat.le_of_ble_eq_true rfl) ?_
  rintro _ _ ⟨rfl, rfl⟩
  refine ev_eq (lv' := [(0, .ref 0), (1, .int (nI (k))), (2, .int (nI (p)))]) (st' := [.int (nI (S.pr k))]) (w' := compW T S P U O B Q C R tl rf) rfl rfl xp_comp__1 ?_
  refine ev_b bX6_price_50_57 (lv' := [(3, .int (nI (S.pr k))), (0, .ref 0), (1, .int (nI (k))), (2, .int (nI (p)))]) (st' := [.int (nI (p)), .int (nI (k)), .ref 1]) (w2 := compW T S P U O B Q C R tl rf) rfl ?_
  refine ev_callVN (Yc := mX3_setPrice) [1, 2, 3, 4, 5, 6, 7, 8] dX6_price_57 tn_457 kX3_setPrice (m_X3_setPrice S k p hS hk) rfl (st := []) rfl rfl rfl (by decide) hw_comp__1 (by decide) (Nat.le_of_ble_eq_true rfl) (Nat.le_refl _) (Nat.le_refl _) (fun r w' h => by obtain ⟨-, rfl⟩ := h; exact Nat.le_of_ble_eq_true rfl) ?_
  rintro _ _ ⟨rfl, rfl⟩
  refine ev_eq (lv' := [(3, .int (nI (S.pr k))), (0, .ref 0), (1, .int (nI (k))), (2, .int (nI (p)))]) (st' := []) (w' := compW T ((priceS S k p)) P U O B Q C R tl rf) rfl rfl xp_comp__1 ?_
  refine ev_b bX6_price_60_61 (lv' := [(3, .int (nI (S.pr k))), (0, .ref 0), (1, .int (nI (k))), (2, .int (nI (p)))]) (st' := [.int (nI (S.pr k))]) (w2 := compW T ((priceS S k p)) P U O B Q C R tl rf) rfl ?_
  exact ev_iret dX6_price_61 rfl (Nat.le_refl 49) (Nat.le_refl _) (Nat.le_refl _) ⟨rfl, _, _, _, _, _, _, rfl, hQ, rfl, rfl⟩
theorem bX6_kind_0_1 {l : Launch} {E : XE} : Snd l E mX6_kind 0 1 (xs [x_iload 1]) := Snd.cons (snd_iload_n (i := 1) dX6_kind_0 rfl) Snd.nil
theorem bX6_kind_7_9 {l : Launch} {E : XE} : Snd l E mX6_kind 7 9 (xs [x_aload 0, x_push (.int (-1))]) := Snd.cons (snd_aload_n (i := 0) dX6_kind_7 rfl) (Snd.cons (snd_iconst (v := -1) dX6_kind_8 (by decide)) Snd.nil)
set_option maxHeartbeats 4000000 in
set_option maxRecDepth 100000 in
theorem p_kind_1 {l : Launch} {E : XE} (T : TopN) (S P U : SaleN) (O : OutN) (B : BillN) (Q : SeaN) (C : ScrN) (R : PrtN) (tl rf : Nat → Nat) (z1 z2 z3 : Int) (hS : SaleOK S) (hQ : Q.fd < 2147483648) (rz1 : -2147483648 ≤ z1 ∧ z1 < 2147483648) (rz2 : -2147483648 ≤ z2 ∧ z2 < 2147483648) (rz3 : -2147483648 ≤ z3 ∧ z3 < 2147483648) (h : ¬ (0 ≤ z1 ∧ z1 < 5)) : MetE l E mX6_kind (1) 0 0 [.ref 0, .int (zI (z1)), .int (zI (z2)), .int (zI (z3))] (compW T S P U O B Q C R tl rf) (CP T S P (C.lt) (C.sz) tl (up rf 1 (rf 1 + 1)) (some (.int (-1)))) := by
  refine MetE.of (by decide +kernel) (Nat.le_of_ble_eq_true rfl) ?_
  have hca := hS.1
  have hpw := pow_ca hS
  have hac := ac_lt hS
  
  refine ev_eq (lv' := [(0, .ref 0), (1, .int (zI (z1))), (2, .int (zI (z2))), (3, .int (zI (z3)))]) (st' := []) (w' := compW T S P U O B Q C R tl rf) rfl rfl rfl ?_
  refine ev_b bX6_kind_0_1 (lv' := [(0, .ref 0), (1, .int (zI (z1))), (2, .int (zI (z2))), (3, .int (zI (z3)))]) (st' := [.int (zI (z1))]) (w2 := compW T S P U O B Q C R tl rf) rfl ?_
  refine ev_callS (Yc := mX6_isBidder) [] dX6_kind_1 tw_437 kX6_isBidder (m_X6_isBidder_z z1 rz1) rfl (st := []) rfl (by decide) rfl (by decide) (Nat.le_of_ble_eq_true rfl) (Nat.le_refl _) (Nat.le_refl _) (fun r w' h => by obtain ⟨-, rfl⟩ := h; exact Nat.le_of_ble_eq_true rfl) ?_
  rintro _ _ ⟨rfl, rfl⟩
  refine ev_eq (lv' := [(0, .ref 0), (1, .int (zI (z1))), (2, .int (zI (z2))), (3, .int (zI (z3)))]) (st' := [.int (nI (b01 (0 ≤ z1 ∧ z1 < 5)))]) (w' := compW T S P U O B Q C R tl rf) rfl rfl rfl ?_
  refine ev_ifne_b (tgt := 13) dX6_kind_4 (by decide) (fun h4 => (by exfalso; omega)) (fun h4 => ?_)
  refine ev_b bX6_kind_7_9 (lv' := [(0, .ref 0), (1, .int (zI (z1))), (2, .int (zI (z2))), (3, .int (zI (z3)))]) (st' := [.int (-1), .ref 0]) (w2 := compW T S P U O B Q C R tl rf) rfl ?_
  refine ev_callV (Yc := mX6_refuse) (rng 0 49) dX6_kind_9 tw_248 kX6_refuse (m_X6_refuse_1 T S P U O B Q C R tl rf) rfl (st := []) rfl rfl rfl (by decide) (same_hw (compW T S P U O B Q C R tl rf)) (by decide) (Nat.le_of_ble_eq_true rfl) (Nat.le_refl _) (Nat.le_refl _) (fun r w' h => by obtain ⟨-, rfl⟩ := h; exact Nat.le_of_ble_eq_true rfl) ?_
  rintro _ _ ⟨rfl, rfl⟩
  refine ev_eq (lv' := [(0, .ref 0), (1, .int (zI (z1))), (2, .int (zI (z2))), (3, .int (zI (z3)))]) (st' := [.int (-1)]) (w' := compW T S P U O B Q C R tl ((up rf 1 (rf 1 + 1)))) rfl rfl (same_xp (compW T S P U O B Q C R tl rf) (compW T S P U O B Q C R tl ((up rf 1 (rf 1 + 1)))) rfl) ?_
  exact ev_iret dX6_kind_12 rfl (Nat.le_refl 49) (Nat.le_refl _) (Nat.le_refl _) ⟨rfl, _, _, _, _, _, _, rfl, hQ, rfl, rfl⟩
theorem bX6_kind_13_14 {l : Launch} {E : XE} : Snd l E mX6_kind 13 14 (xs [x_iload 2]) := Snd.cons (snd_iload_n (i := 2) dX6_kind_13 rfl) Snd.nil
theorem bX6_kind_23_26 {l : Launch} {E : XE} : Snd l E mX6_kind 23 26 (xs [x_aload 0, x_push (.int (-2))]) := Snd.cons (snd_aload_n (i := 0) dX6_kind_23 rfl) (Snd.cons (snd_bipush (v := -2) dX6_kind_24 (by decide)) Snd.nil)
set_option maxHeartbeats 4000000 in
set_option maxRecDepth 100000 in
theorem p_kind_2a {l : Launch} {E : XE} (T : TopN) (S P U : SaleN) (O : OutN) (B : BillN) (Q : SeaN) (C : ScrN) (R : PrtN) (tl rf : Nat → Nat) (z1 z2 z3 : Int) (hS : SaleOK S) (hQ : Q.fd < 2147483648) (rz1 : -2147483648 ≤ z1 ∧ z1 < 2147483648) (rz2 : -2147483648 ≤ z2 ∧ z2 < 2147483648) (rz3 : -2147483648 ≤ z3 ∧ z3 < 2147483648) (h : 0 ≤ z1 ∧ z1 < 5) (h2 : z2 < 0) : MetE l E mX6_kind (1) 0 0 [.ref 0, .int (zI (z1)), .int (zI (z2)), .int (zI (z3))] (compW T S P U O B Q C R tl rf) (CP T S P (C.lt) (C.sz) tl (up rf 2 (rf 2 + 1)) (some (.int (-2)))) := by
  refine MetE.of (by decide +kernel) (Nat.le_of_ble_eq_true rfl) ?_
  have hca := hS.1
  have hpw := pow_ca hS
  have hac := ac_lt hS
  
  refine ev_eq (lv' := [(0, .ref 0), (1, .int (zI (z1))), (2, .int (zI (z2))), (3, .int (zI (z3)))]) (st' := []) (w' := compW T S P U O B Q C R tl rf) rfl rfl rfl ?_
  refine ev_b bX6_kind_0_1 (lv' := [(0, .ref 0), (1, .int (zI (z1))), (2, .int (zI (z2))), (3, .int (zI (z3)))]) (st' := [.int (zI (z1))]) (w2 := compW T S P U O B Q C R tl rf) rfl ?_
  refine ev_callS (Yc := mX6_isBidder) [] dX6_kind_1 tw_437 kX6_isBidder (m_X6_isBidder_z z1 rz1) rfl (st := []) rfl (by decide) rfl (by decide) (Nat.le_of_ble_eq_true rfl) (Nat.le_refl _) (Nat.le_refl _) (fun r w' h => by obtain ⟨-, rfl⟩ := h; exact Nat.le_of_ble_eq_true rfl) ?_
  rintro _ _ ⟨rfl, rfl⟩
  refine ev_eq (lv' := [(0, .ref 0), (1, .int (zI (z1))), (2, .int (zI (z2))), (3, .int (zI (z3)))]) (st' := [.int (nI (b01 (0 ≤ z1 ∧ z1 < 5)))]) (w' := compW T S P U O B Q C R tl rf) rfl rfl rfl ?_
  refine ev_ifne_b (tgt := 13) dX6_kind_4 (by decide) (fun h4 => ?_) (fun h4 => (by exfalso; omega))
  refine ev_b bX6_kind_13_14 (lv' := [(0, .ref 0), (1, .int (zI (z1))), (2, .int (zI (z2))), (3, .int (zI (z3)))]) (st' := [.int (zI (z2))]) (w2 := compW T S P U O B Q C R tl rf) rfl ?_
  refine ev_if_lt_z (tgt := 23) (by constructor <;> omega) dX6_kind_14 (by decide) (fun h14 => ?_) (fun h14 => (by exfalso; omega))
  refine ev_b bX6_kind_23_26 (lv' := [(0, .ref 0), (1, .int (zI (z1))), (2, .int (zI (z2))), (3, .int (zI (z3)))]) (st' := [.int (-2), .ref 0]) (w2 := compW T S P U O B Q C R tl rf) rfl ?_
  refine ev_callV (Yc := mX6_refuse) (rng 0 49) dX6_kind_26 tw_248 kX6_refuse (m_X6_refuse_2 T S P U O B Q C R tl rf) rfl (st := []) rfl rfl rfl (by decide) (same_hw (compW T S P U O B Q C R tl rf)) (by decide) (Nat.le_of_ble_eq_true rfl) (Nat.le_refl _) (Nat.le_refl _) (fun r w' h => by obtain ⟨-, rfl⟩ := h; exact Nat.le_of_ble_eq_true rfl) ?_
  rintro _ _ ⟨rfl, rfl⟩
  refine ev_eq (lv' := [(0, .ref 0), (1, .int (zI (z1))), (2, .int (zI (z2))), (3, .int (zI (z3)))]) (st' := [.int (-2)]) (w' := compW T S P U O B Q C R tl ((up rf 2 (rf 2 + 1)))) rfl rfl (same_xp (compW T S P U O B Q C R tl rf) (compW T S P U O B Q C R tl ((up rf 2 (rf 2 + 1)))) rfl) ?_
  exact ev_iret dX6_kind_29 rfl (Nat.le_refl 49) (Nat.le_refl _) (Nat.le_refl _) ⟨rfl, _, _, _, _, _, _, rfl, hQ, rfl, rfl⟩
theorem bX6_kind_17_20 {l : Launch} {E : XE} : Snd l E mX6_kind 17 20 (xs [x_iload 2, x_push (.int (nI 6))]) := Snd.cons (snd_iload_n (i := 2) dX6_kind_17 rfl) (Snd.cons (snd_bipush (v := nI 6) dX6_kind_18 (by decide)) Snd.nil)
set_option maxHeartbeats 4000000 in
set_option maxRecDepth 100000 in
theorem p_kind_2b {l : Launch} {E : XE} (T : TopN) (S P U : SaleN) (O : OutN) (B : BillN) (Q : SeaN) (C : ScrN) (R : PrtN) (tl rf : Nat → Nat) (z1 z2 z3 : Int) (hS : SaleOK S) (hQ : Q.fd < 2147483648) (rz1 : -2147483648 ≤ z1 ∧ z1 < 2147483648) (rz2 : -2147483648 ≤ z2 ∧ z2 < 2147483648) (rz3 : -2147483648 ≤ z3 ∧ z3 < 2147483648) (h : 0 ≤ z1 ∧ z1 < 5) (h2 : 5 < z2) : MetE l E mX6_kind (1) 0 0 [.ref 0, .int (zI (z1)), .int (zI (z2)), .int (zI (z3))] (compW T S P U O B Q C R tl rf) (CP T S P (C.lt) (C.sz) tl (up rf 2 (rf 2 + 1)) (some (.int (-2)))) := by
  refine MetE.of (by decide +kernel) (Nat.le_of_ble_eq_true rfl) ?_
  have hca := hS.1
  have hpw := pow_ca hS
  have hac := ac_lt hS
  
  refine ev_eq (lv' := [(0, .ref 0), (1, .int (zI (z1))), (2, .int (zI (z2))), (3, .int (zI (z3)))]) (st' := []) (w' := compW T S P U O B Q C R tl rf) rfl rfl rfl ?_
  refine ev_b bX6_kind_0_1 (lv' := [(0, .ref 0), (1, .int (zI (z1))), (2, .int (zI (z2))), (3, .int (zI (z3)))]) (st' := [.int (zI (z1))]) (w2 := compW T S P U O B Q C R tl rf) rfl ?_
  refine ev_callS (Yc := mX6_isBidder) [] dX6_kind_1 tw_437 kX6_isBidder (m_X6_isBidder_z z1 rz1) rfl (st := []) rfl (by decide) rfl (by decide) (Nat.le_of_ble_eq_true rfl) (Nat.le_refl _) (Nat.le_refl _) (fun r w' h => by obtain ⟨-, rfl⟩ := h; exact Nat.le_of_ble_eq_true rfl) ?_
  rintro _ _ ⟨rfl, rfl⟩
  refine ev_eq (lv' := [(0, .ref 0), (1, .int (zI (z1))), (2, .int (zI (z2))), (3, .int (zI (z3)))]) (st' := [.int (nI (b01 (0 ≤ z1 ∧ z1 < 5)))]) (w' := compW T S P U O B Q C R tl rf) rfl rfl rfl ?_
  refine ev_ifne_b (tgt := 13) dX6_kind_4 (by decide) (fun h4 => ?_) (fun h4 => (by exfalso; omega))
  refine ev_b bX6_kind_13_14 (lv' := [(0, .ref 0), (1, .int (zI (z1))), (2, .int (zI (z2))), (3, .int (zI (z3)))]) (st' := [.int (zI (z2))]) (w2 := compW T S P U O B Q C R tl rf) rfl ?_
  refine ev_if_lt_z (tgt := 23) (by constructor <;> omega) dX6_kind_14 (by decide) (fun h14 => (by exfalso; omega)) (fun h14 => ?_)
  refine ev_b bX6_kind_17_20 (lv' := [(0, .ref 0), (1, .int (zI (z1))), (2, .int (zI (z2))), (3, .int (zI (z3)))]) (st' := [.int (nI (6)), .int (zI (z2))]) (w2 := compW T S P U O B Q C R tl rf) rfl ?_
  refine ev_top (y := zI (((6 : Nat) : Int))) (zI_nat _).symm ?_
  refine ev_icmp_lt_z (tgt := 30) (by constructor <;> omega) (by constructor <;> omega) dX6_kind_20 (by decide) (fun h20 => (by exfalso; omega)) (fun h20 => ?_)
  refine ev_b bX6_kind_23_26 (lv' := [(0, .ref 0), (1, .int (zI (z1))), (2, .int (zI (z2))), (3, .int (zI (z3)))]) (st' := [.int (-2), .ref 0]) (w2 := compW T S P U O B Q C R tl rf) rfl ?_
  refine ev_callV (Yc := mX6_refuse) (rng 0 49) dX6_kind_26 tw_248 kX6_refuse (m_X6_refuse_2 T S P U O B Q C R tl rf) rfl (st := []) rfl rfl rfl (by decide) (same_hw (compW T S P U O B Q C R tl rf)) (by decide) (Nat.le_of_ble_eq_true rfl) (Nat.le_refl _) (Nat.le_refl _) (fun r w' h => by obtain ⟨-, rfl⟩ := h; exact Nat.le_of_ble_eq_true rfl) ?_
  rintro _ _ ⟨rfl, rfl⟩
  refine ev_eq (lv' := [(0, .ref 0), (1, .int (zI (z1))), (2, .int (zI (z2))), (3, .int (zI (z3)))]) (st' := [.int (-2)]) (w' := compW T S P U O B Q C R tl ((up rf 2 (rf 2 + 1)))) rfl rfl (same_xp (compW T S P U O B Q C R tl rf) (compW T S P U O B Q C R tl ((up rf 2 (rf 2 + 1)))) rfl) ?_
  exact ev_iret dX6_kind_29 rfl (Nat.le_refl 49) (Nat.le_refl _) (Nat.le_refl _) ⟨rfl, _, _, _, _, _, _, rfl, hQ, rfl, rfl⟩
theorem bX6_kind_30_31 {l : Launch} {E : XE} : Snd l E mX6_kind 30 31 (xs [x_iload 3]) := Snd.cons (snd_iload_n (i := 3) dX6_kind_30 rfl) Snd.nil
theorem bX6_kind_34_37 {l : Launch} {E : XE} : Snd l E mX6_kind 34 37 (xs [x_aload 0, x_push (.int (-4))]) := Snd.cons (snd_aload_n (i := 0) dX6_kind_34 rfl) (Snd.cons (snd_bipush (v := -4) dX6_kind_35 (by decide)) Snd.nil)
set_option maxHeartbeats 4000000 in
set_option maxRecDepth 100000 in
theorem p_kind_4 {l : Launch} {E : XE} (T : TopN) (S P U : SaleN) (O : OutN) (B : BillN) (Q : SeaN) (C : ScrN) (R : PrtN) (tl rf : Nat → Nat) (z1 z2 z3 : Int) (hS : SaleOK S) (hQ : Q.fd < 2147483648) (rz1 : -2147483648 ≤ z1 ∧ z1 < 2147483648) (rz2 : -2147483648 ≤ z2 ∧ z2 < 2147483648) (rz3 : -2147483648 ≤ z3 ∧ z3 < 2147483648) (h : 0 ≤ z1 ∧ z1 < 5) (h2 : 0 ≤ z2 ∧ z2 < 6) (h3 : z3 < 0) : MetE l E mX6_kind (1) 0 0 [.ref 0, .int (zI (z1)), .int (zI (z2)), .int (zI (z3))] (compW T S P U O B Q C R tl rf) (CP T S P (C.lt) (C.sz) tl (up rf 4 (rf 4 + 1)) (some (.int (-4)))) := by
  refine MetE.of (by decide +kernel) (Nat.le_of_ble_eq_true rfl) ?_
  have hca := hS.1
  have hpw := pow_ca hS
  have hac := ac_lt hS
  
  refine ev_eq (lv' := [(0, .ref 0), (1, .int (zI (z1))), (2, .int (zI (z2))), (3, .int (zI (z3)))]) (st' := []) (w' := compW T S P U O B Q C R tl rf) rfl rfl rfl ?_
  refine ev_b bX6_kind_0_1 (lv' := [(0, .ref 0), (1, .int (zI (z1))), (2, .int (zI (z2))), (3, .int (zI (z3)))]) (st' := [.int (zI (z1))]) (w2 := compW T S P U O B Q C R tl rf) rfl ?_
  refine ev_callS (Yc := mX6_isBidder) [] dX6_kind_1 tw_437 kX6_isBidder (m_X6_isBidder_z z1 rz1) rfl (st := []) rfl (by decide) rfl (by decide) (Nat.le_of_ble_eq_true rfl) (Nat.le_refl _) (Nat.le_refl _) (fun r w' h => by obtain ⟨-, rfl⟩ := h; exact Nat.le_of_ble_eq_true rfl) ?_
  rintro _ _ ⟨rfl, rfl⟩
  refine ev_eq (lv' := [(0, .ref 0), (1, .int (zI (z1))), (2, .int (zI (z2))), (3, .int (zI (z3)))]) (st' := [.int (nI (b01 (0 ≤ z1 ∧ z1 < 5)))]) (w' := compW T S P U O B Q C R tl rf) rfl rfl rfl ?_
  refine ev_ifne_b (tgt := 13) dX6_kind_4 (by decide) (fun h4 => ?_) (fun h4 => (by exfalso; omega))
  refine ev_b bX6_kind_13_14 (lv' := [(0, .ref 0), (1, .int (zI (z1))), (2, .int (zI (z2))), (3, .int (zI (z3)))]) (st' := [.int (zI (z2))]) (w2 := compW T S P U O B Q C R tl rf) rfl ?_
  refine ev_if_lt_z (tgt := 23) (by constructor <;> omega) dX6_kind_14 (by decide) (fun h14 => (by exfalso; omega)) (fun h14 => ?_)
  refine ev_b bX6_kind_17_20 (lv' := [(0, .ref 0), (1, .int (zI (z1))), (2, .int (zI (z2))), (3, .int (zI (z3)))]) (st' := [.int (nI (6)), .int (zI (z2))]) (w2 := compW T S P U O B Q C R tl rf) rfl ?_
  refine ev_top (y := zI (((6 : Nat) : Int))) (zI_nat _).symm ?_
  refine ev_icmp_lt_z (tgt := 30) (by constructor <;> omega) (by constructor <;> omega) dX6_kind_20 (by decide) (fun h20 => ?_) (fun h20 => (by exfalso; omega))
  refine ev_b bX6_kind_30_31 (lv' := [(0, .ref 0), (1, .int (zI (z1))), (2, .int (zI (z2))), (3, .int (zI (z3)))]) (st' := [.int (zI (z3))]) (w2 := compW T S P U O B Q C R tl rf) rfl ?_
  refine ev_if_ge_z (tgt := 41) (by constructor <;> omega) dX6_kind_31 (by decide) (fun h31 => (by exfalso; omega)) (fun h31 => ?_)
  refine ev_b bX6_kind_34_37 (lv' := [(0, .ref 0), (1, .int (zI (z1))), (2, .int (zI (z2))), (3, .int (zI (z3)))]) (st' := [.int (-4), .ref 0]) (w2 := compW T S P U O B Q C R tl rf) rfl ?_
  refine ev_callV (Yc := mX6_refuse) (rng 0 49) dX6_kind_37 tw_248 kX6_refuse (m_X6_refuse_4 T S P U O B Q C R tl rf) rfl (st := []) rfl rfl rfl (by decide) (same_hw (compW T S P U O B Q C R tl rf)) (by decide) (Nat.le_of_ble_eq_true rfl) (Nat.le_refl _) (Nat.le_refl _) (fun r w' h => by obtain ⟨-, rfl⟩ := h; exact Nat.le_of_ble_eq_true rfl) ?_
  rintro _ _ ⟨rfl, rfl⟩
  refine ev_eq (lv' := [(0, .ref 0), (1, .int (zI (z1))), (2, .int (zI (z2))), (3, .int (zI (z3)))]) (st' := [.int (-4)]) (w' := compW T S P U O B Q C R tl ((up rf 4 (rf 4 + 1)))) rfl rfl (same_xp (compW T S P U O B Q C R tl rf) (compW T S P U O B Q C R tl ((up rf 4 (rf 4 + 1)))) rfl) ?_
  exact ev_iret dX6_kind_40 rfl (Nat.le_refl 49) (Nat.le_refl _) (Nat.le_refl _) ⟨rfl, _, _, _, _, _, _, rfl, hQ, rfl, rfl⟩
theorem bX6_kind_41_44 {l : Launch} {E : XE} : Snd l E mX6_kind 41 44 (xs [x_iload 3, x_push (.int (nI 9))]) := Snd.cons (snd_iload_n (i := 3) dX6_kind_41 rfl) (Snd.cons (snd_bipush (v := nI 9) dX6_kind_42 (by decide)) Snd.nil)
theorem bX6_kind_47_50 {l : Launch} {E : XE} : Snd l E mX6_kind 47 50 (xs [x_aload 0, x_push (.int (-6))]) := Snd.cons (snd_aload_n (i := 0) dX6_kind_47 rfl) (Snd.cons (snd_bipush (v := -6) dX6_kind_48 (by decide)) Snd.nil)
set_option maxHeartbeats 4000000 in
set_option maxRecDepth 100000 in
theorem p_kind_6 {l : Launch} {E : XE} (T : TopN) (S P U : SaleN) (O : OutN) (B : BillN) (Q : SeaN) (C : ScrN) (R : PrtN) (tl rf : Nat → Nat) (z1 z2 z3 : Int) (hS : SaleOK S) (hQ : Q.fd < 2147483648) (rz1 : -2147483648 ≤ z1 ∧ z1 < 2147483648) (rz2 : -2147483648 ≤ z2 ∧ z2 < 2147483648) (rz3 : -2147483648 ≤ z3 ∧ z3 < 2147483648) (h : 0 ≤ z1 ∧ z1 < 5) (h2 : 0 ≤ z2 ∧ z2 < 6) (h3 : 9 < z3) : MetE l E mX6_kind (1) 0 0 [.ref 0, .int (zI (z1)), .int (zI (z2)), .int (zI (z3))] (compW T S P U O B Q C R tl rf) (CP T S P (C.lt) (C.sz) tl (up rf 6 (rf 6 + 1)) (some (.int (-6)))) := by
  refine MetE.of (by decide +kernel) (Nat.le_of_ble_eq_true rfl) ?_
  have hca := hS.1
  have hpw := pow_ca hS
  have hac := ac_lt hS
  
  refine ev_eq (lv' := [(0, .ref 0), (1, .int (zI (z1))), (2, .int (zI (z2))), (3, .int (zI (z3)))]) (st' := []) (w' := compW T S P U O B Q C R tl rf) rfl rfl rfl ?_
  refine ev_b bX6_kind_0_1 (lv' := [(0, .ref 0), (1, .int (zI (z1))), (2, .int (zI (z2))), (3, .int (zI (z3)))]) (st' := [.int (zI (z1))]) (w2 := compW T S P U O B Q C R tl rf) rfl ?_
  refine ev_callS (Yc := mX6_isBidder) [] dX6_kind_1 tw_437 kX6_isBidder (m_X6_isBidder_z z1 rz1) rfl (st := []) rfl (by decide) rfl (by decide) (Nat.le_of_ble_eq_true rfl) (Nat.le_refl _) (Nat.le_refl _) (fun r w' h => by obtain ⟨-, rfl⟩ := h; exact Nat.le_of_ble_eq_true rfl) ?_
  rintro _ _ ⟨rfl, rfl⟩
  refine ev_eq (lv' := [(0, .ref 0), (1, .int (zI (z1))), (2, .int (zI (z2))), (3, .int (zI (z3)))]) (st' := [.int (nI (b01 (0 ≤ z1 ∧ z1 < 5)))]) (w' := compW T S P U O B Q C R tl rf) rfl rfl rfl ?_
  refine ev_ifne_b (tgt := 13) dX6_kind_4 (by decide) (fun h4 => ?_) (fun h4 => (by exfalso; omega))
  refine ev_b bX6_kind_13_14 (lv' := [(0, .ref 0), (1, .int (zI (z1))), (2, .int (zI (z2))), (3, .int (zI (z3)))]) (st' := [.int (zI (z2))]) (w2 := compW T S P U O B Q C R tl rf) rfl ?_
  refine ev_if_lt_z (tgt := 23) (by constructor <;> omega) dX6_kind_14 (by decide) (fun h14 => (by exfalso; omega)) (fun h14 => ?_)
  refine ev_b bX6_kind_17_20 (lv' := [(0, .ref 0), (1, .int (zI (z1))), (2, .int (zI (z2))), (3, .int (zI (z3)))]) (st' := [.int (nI (6)), .int (zI (z2))]) (w2 := compW T S P U O B Q C R tl rf) rfl ?_
  refine ev_top (y := zI (((6 : Nat) : Int))) (zI_nat _).symm ?_
  refine ev_icmp_lt_z (tgt := 30) (by constructor <;> omega) (by constructor <;> omega) dX6_kind_20 (by decide) (fun h20 => ?_) (fun h20 => (by exfalso; omega))
  refine ev_b bX6_kind_30_31 (lv' := [(0, .ref 0), (1, .int (zI (z1))), (2, .int (zI (z2))), (3, .int (zI (z3)))]) (st' := [.int (zI (z3))]) (w2 := compW T S P U O B Q C R tl rf) rfl ?_
  refine ev_if_ge_z (tgt := 41) (by constructor <;> omega) dX6_kind_31 (by decide) (fun h31 => ?_) (fun h31 => (by exfalso; omega))
  refine ev_b bX6_kind_41_44 (lv' := [(0, .ref 0), (1, .int (zI (z1))), (2, .int (zI (z2))), (3, .int (zI (z3)))]) (st' := [.int (nI (9)), .int (zI (z3))]) (w2 := compW T S P U O B Q C R tl rf) rfl ?_
  refine ev_top (y := zI (((9 : Nat) : Int))) (zI_nat _).symm ?_
  refine ev_icmp_le_z (tgt := 54) (by constructor <;> omega) (by constructor <;> omega) dX6_kind_44 (by decide) (fun h44 => (by exfalso; omega)) (fun h44 => ?_)
  refine ev_b bX6_kind_47_50 (lv' := [(0, .ref 0), (1, .int (zI (z1))), (2, .int (zI (z2))), (3, .int (zI (z3)))]) (st' := [.int (-6), .ref 0]) (w2 := compW T S P U O B Q C R tl rf) rfl ?_
  refine ev_callV (Yc := mX6_refuse) (rng 0 49) dX6_kind_50 tw_248 kX6_refuse (m_X6_refuse_6 T S P U O B Q C R tl rf) rfl (st := []) rfl rfl rfl (by decide) (same_hw (compW T S P U O B Q C R tl rf)) (by decide) (Nat.le_of_ble_eq_true rfl) (Nat.le_refl _) (Nat.le_refl _) (fun r w' h => by obtain ⟨-, rfl⟩ := h; exact Nat.le_of_ble_eq_true rfl) ?_
  rintro _ _ ⟨rfl, rfl⟩
  refine ev_eq (lv' := [(0, .ref 0), (1, .int (zI (z1))), (2, .int (zI (z2))), (3, .int (zI (z3)))]) (st' := [.int (-6)]) (w' := compW T S P U O B Q C R tl ((up rf 6 (rf 6 + 1)))) rfl rfl (same_xp (compW T S P U O B Q C R tl rf) (compW T S P U O B Q C R tl ((up rf 6 (rf 6 + 1)))) rfl) ?_
  exact ev_iret dX6_kind_53 rfl (Nat.le_refl 49) (Nat.le_refl _) (Nat.le_refl _) ⟨rfl, _, _, _, _, _, _, rfl, hQ, rfl, rfl⟩
theorem bX6_kind_54_61 {l : Launch} {E : XE} : Snd l E mX6_kind 54 61 (xs [x_push (.int (nI 10)), x_aload 0, x_get 7 0, x_iload 1]) := Snd.cons (snd_bipush (v := nI 10) dX6_kind_54 (by decide)) (Snd.cons (snd_aload_n (i := 0) dX6_kind_56 rfl) (Snd.cons (snd_get (ci := 7) (k := 0) dX6_kind_57 rfl inX6 (by decide) tw_207) (Snd.cons (snd_iload_n (i := 1) dX6_kind_60 rfl) Snd.nil)))
theorem bX6_kind_65_70 {l : Launch} {E : XE} : Snd l E mX6_kind 65 70 (xs [x_aload 0, x_get 7 0, x_iload 1]) := Snd.cons (snd_aload_n (i := 0) dX6_kind_65 rfl) (Snd.cons (snd_get (ci := 7) (k := 0) dX6_kind_66 rfl inX6 (by decide) tw_207) (Snd.cons (snd_iload_n (i := 1) dX6_kind_69 rfl) Snd.nil))
theorem bX6_kind_74_83 {l : Launch} {E : XE} : Snd l E mX6_kind 74 83 (xs [x_istore 4, x_aload 0, x_get 7 0, x_iload 1, x_iload 2, x_iload 3]) := Snd.cons (snd_istore dX6_kind_74 (by decide)) (Snd.cons (snd_aload_n (i := 0) dX6_kind_76 rfl) (Snd.cons (snd_get (ci := 7) (k := 0) dX6_kind_77 rfl inX6 (by decide) tw_207) (Snd.cons (snd_iload_n (i := 1) dX6_kind_80 rfl) (Snd.cons (snd_iload_n (i := 2) dX6_kind_81 rfl) (Snd.cons (snd_iload_n (i := 3) dX6_kind_82 rfl) Snd.nil)))))
theorem bX6_kind_86_88 {l : Launch} {E : XE} : Snd l E mX6_kind 86 88 (xs [x_iload 4]) := Snd.cons (snd_iload dX6_kind_86) Snd.nil
set_option maxHeartbeats 4000000 in
set_option maxRecDepth 100000 in
theorem p_kind_ok {l : Launch} {E : XE} (T : TopN) (S P U : SaleN) (O : OutN) (B : BillN) (Q : SeaN) (C : ScrN) (R : PrtN) (tl rf : Nat → Nat) (b k f : Nat) (hS : SaleOK S) (hQ : Q.fd < 2147483648) (hb : b < 5) (hk : k < 6) (hf : f ≤ 9) : MetE l E mX6_kind (2) 0 0 [.ref 0, .int (nI (b)), .int (nI (k)), .int (nI (f))] (compW T S P U O B Q C R tl rf) (CP T (kindS S b k f) P (C.lt) (C.sz) tl rf (some (.int (nI (10 * S.kd b + S.fg b))))) := by
  refine MetE.of (by decide +kernel) (Nat.le_of_ble_eq_true rfl) ?_
  have hca := hS.1
  have hpw := pow_ca hS
  have hac := ac_lt hS
  
  refine ev_eq (lv' := [(0, .ref 0), (1, .int (nI (b))), (2, .int (nI (k))), (3, .int (nI (f)))]) (st' := []) (w' := compW T S P U O B Q C R tl rf) rfl rfl rfl ?_
  refine ev_b bX6_kind_0_1 (lv' := [(0, .ref 0), (1, .int (nI (b))), (2, .int (nI (k))), (3, .int (nI (f)))]) (st' := [.int (nI (b))]) (w2 := compW T S P U O B Q C R tl rf) rfl ?_
  refine ev_callS (Yc := mX6_isBidder) [] dX6_kind_1 tw_437 kX6_isBidder (m_X6_isBidder b (by omega)) rfl (st := []) rfl (by decide) rfl (by decide) (Nat.le_of_ble_eq_true rfl) (Nat.le_refl _) (Nat.le_refl _) (fun r w' h => by obtain ⟨-, rfl⟩ := h; exact Nat.le_of_ble_eq_true rfl) ?_
  rintro _ _ ⟨rfl, rfl⟩
  refine ev_eq (lv' := [(0, .ref 0), (1, .int (nI (b))), (2, .int (nI (k))), (3, .int (nI (f)))]) (st' := [.int (nI (b01 (b < 5)))]) (w' := compW T S P U O B Q C R tl rf) rfl rfl rfl ?_
  refine ev_ifne_b (tgt := 13) dX6_kind_4 (by decide) (fun h4 => ?_) (fun h4 => (by exfalso; omega))
  refine ev_b bX6_kind_13_14 (lv' := [(0, .ref 0), (1, .int (nI (b))), (2, .int (nI (k))), (3, .int (nI (f)))]) (st' := [.int (nI (k))]) (w2 := compW T S P U O B Q C R tl rf) rfl ?_
  refine ev_if_lt_n (tgt := 23) (by omega) dX6_kind_14 (by decide) (fun h14 => (by exfalso; omega)) (fun h14 => ?_)
  refine ev_b bX6_kind_17_20 (lv' := [(0, .ref 0), (1, .int (nI (b))), (2, .int (nI (k))), (3, .int (nI (f)))]) (st' := [.int (nI (6)), .int (nI (k))]) (w2 := compW T S P U O B Q C R tl rf) rfl ?_
  refine ev_icmp_lt_n (tgt := 30) (by omega) (by decide) dX6_kind_20 (by decide) (fun h20 => ?_) (fun h20 => (by exfalso; omega))
  refine ev_b bX6_kind_30_31 (lv' := [(0, .ref 0), (1, .int (nI (b))), (2, .int (nI (k))), (3, .int (nI (f)))]) (st' := [.int (nI (f))]) (w2 := compW T S P U O B Q C R tl rf) rfl ?_
  refine ev_if_ge_n (tgt := 41) (by omega) dX6_kind_31 (by decide) (fun h31 => ?_) (fun h31 => (by exfalso; omega))
  refine ev_b bX6_kind_41_44 (lv' := [(0, .ref 0), (1, .int (nI (b))), (2, .int (nI (k))), (3, .int (nI (f)))]) (st' := [.int (nI (9)), .int (nI (f))]) (w2 := compW T S P U O B Q C R tl rf) rfl ?_
  refine ev_icmp_le_n (tgt := 54) (by omega) (by decide) dX6_kind_44 (by decide) (fun h44 => ?_) (fun h44 => (by exfalso; omega))
  refine ev_b bX6_kind_54_61 (lv' := [(0, .ref 0), (1, .int (nI (b))), (2, .int (nI (k))), (3, .int (nI (f)))]) (st' := [.int (nI (b)), .ref 1, .int (nI (10))]) (w2 := compW T S P U O B Q C R tl rf) rfl ?_
  refine ev_callVN (Yc := mX3_kindOf) [1, 2, 3, 4, 5, 6, 7, 8] dX6_kind_61 tn_462 kX3_kindOf (m_X3_kindOf S b hb) rfl (st := [.int (nI (10))]) rfl rfl rfl (by decide) hw_comp__1 (by decide) (Nat.le_of_ble_eq_true rfl) (Nat.le_refl _) (Nat.le_refl _) (fun r w' h => by obtain ⟨-, rfl⟩ := h; exact Nat.le_of_ble_eq_true rfl) ?_
  rintro _ _ ⟨rfl, rfl⟩
  refine ev_eq (lv' := [(0, .ref 0), (1, .int (nI (b))), (2, .int (nI (k))), (3, .int (nI (f)))]) (st' := [.int (nI (S.kd b)), .int (nI (10))]) (w' := compW T S P U O B Q C R tl rf) rfl rfl xp_comp__1 ?_
  refine ev_imul_n dX6_kind_64 ?_
  refine ev_b bX6_kind_65_70 (lv' := [(0, .ref 0), (1, .int (nI (b))), (2, .int (nI (k))), (3, .int (nI (f)))]) (st' := [.int (nI (b)), .ref 1, .int (nI (10 * (S.kd b)))]) (w2 := compW T S P U O B Q C R tl rf) rfl ?_
  refine ev_callVN (Yc := mX3_figureOf) [1, 2, 3, 4, 5, 6, 7, 8] dX6_kind_70 tn_466 kX3_figureOf (m_X3_figureOf S b hb) rfl (st := [.int (nI (10 * (S.kd b)))]) rfl rfl rfl (by decide) hw_comp__1 (by decide) (Nat.le_of_ble_eq_true rfl) (Nat.le_refl _) (Nat.le_refl _) (fun r w' h => by obtain ⟨-, rfl⟩ := h; exact Nat.le_of_ble_eq_true rfl) ?_
  rintro _ _ ⟨rfl, rfl⟩
  refine ev_eq (lv' := [(0, .ref 0), (1, .int (nI (b))), (2, .int (nI (k))), (3, .int (nI (f)))]) (st' := [.int (nI (S.fg b)), .int (nI (10 * (S.kd b)))]) (w' := compW T S P U O B Q C R tl rf) rfl rfl xp_comp__1 ?_
  refine ev_iadd_n dX6_kind_73 ?_
  refine ev_b bX6_kind_74_83 (lv' := [(4, .int (nI ((10 * (S.kd b)) + (S.fg b)))), (0, .ref 0), (1, .int (nI (b))), (2, .int (nI (k))), (3, .int (nI (f)))]) (st' := [.int (nI (f)), .int (nI (k)), .int (nI (b)), .ref 1]) (w2 := compW T S P U O B Q C R tl rf) rfl ?_
  refine ev_callVN (Yc := mX3_setKind) [1, 2, 3, 4, 5, 6, 7, 8] dX6_kind_83 tn_470 kX3_setKind (m_X3_setKind S b k f hb) rfl (st := []) rfl rfl rfl (by decide) hw_comp__1 (by decide) (Nat.le_of_ble_eq_true rfl) (Nat.le_refl _) (Nat.le_refl _) (fun r w' h => by obtain ⟨-, rfl⟩ := h; exact Nat.le_of_ble_eq_true rfl) ?_
  rintro _ _ ⟨rfl, rfl⟩
  refine ev_eq (lv' := [(4, .int (nI ((10 * (S.kd b)) + (S.fg b)))), (0, .ref 0), (1, .int (nI (b))), (2, .int (nI (k))), (3, .int (nI (f)))]) (st' := []) (w' := compW T ((kindS S b k f)) P U O B Q C R tl rf) rfl rfl xp_comp__1 ?_
  refine ev_b bX6_kind_86_88 (lv' := [(4, .int (nI ((10 * (S.kd b)) + (S.fg b)))), (0, .ref 0), (1, .int (nI (b))), (2, .int (nI (k))), (3, .int (nI (f)))]) (st' := [.int (nI ((10 * (S.kd b)) + (S.fg b)))]) (w2 := compW T ((kindS S b k f)) P U O B Q C R tl rf) rfl ?_
  exact ev_iret dX6_kind_88 rfl (Nat.le_refl 49) (Nat.le_refl _) (Nat.le_refl _) ⟨rfl, _, _, _, _, _, _, rfl, hQ, rfl, rfl⟩
theorem bX6_keep_0_1 {l : Launch} {E : XE} : Snd l E mX6_keep 0 1 (xs [x_iload 1]) := Snd.cons (snd_iload_n (i := 1) dX6_keep_0 rfl) Snd.nil
theorem bX6_keep_7_9 {l : Launch} {E : XE} : Snd l E mX6_keep 7 9 (xs [x_aload 0, x_push (.int (-1))]) := Snd.cons (snd_aload_n (i := 0) dX6_keep_7 rfl) (Snd.cons (snd_iconst (v := -1) dX6_keep_8 (by decide)) Snd.nil)
set_option maxHeartbeats 4000000 in
set_option maxRecDepth 100000 in
theorem p_keep_1 {l : Launch} {E : XE} (T : TopN) (S P U : SaleN) (O : OutN) (B : BillN) (Q : SeaN) (C : ScrN) (R : PrtN) (tl rf : Nat → Nat) (z1 z2 : Int) (hS : SaleOK S) (hQ : Q.fd < 2147483648) (rz1 : -2147483648 ≤ z1 ∧ z1 < 2147483648) (rz2 : -2147483648 ≤ z2 ∧ z2 < 2147483648) (h : ¬ (0 ≤ z1 ∧ z1 < 6)) : MetE l E mX6_keep (1) 0 0 [.ref 0, .int (zI (z1)), .int (zI (z2))] (compW T S P U O B Q C R tl rf) (CP T S P (C.lt) (C.sz) tl (up rf 1 (rf 1 + 1)) (some (.int (-1)))) := by
  refine MetE.of (by decide +kernel) (Nat.le_of_ble_eq_true rfl) ?_
  have hca := hS.1
  have hpw := pow_ca hS
  have hac := ac_lt hS
  
  refine ev_eq (lv' := [(0, .ref 0), (1, .int (zI (z1))), (2, .int (zI (z2)))]) (st' := []) (w' := compW T S P U O B Q C R tl rf) rfl rfl rfl ?_
  refine ev_b bX6_keep_0_1 (lv' := [(0, .ref 0), (1, .int (zI (z1))), (2, .int (zI (z2)))]) (st' := [.int (zI (z1))]) (w2 := compW T S P U O B Q C R tl rf) rfl ?_
  refine ev_callS (Yc := mX6_isItem) [] dX6_keep_1 tw_475 kX6_isItem (m_X6_isItem_z z1 rz1) rfl (st := []) rfl (by decide) rfl (by decide) (Nat.le_of_ble_eq_true rfl) (Nat.le_refl _) (Nat.le_refl _) (fun r w' h => by obtain ⟨-, rfl⟩ := h; exact Nat.le_of_ble_eq_true rfl) ?_
  rintro _ _ ⟨rfl, rfl⟩
  refine ev_eq (lv' := [(0, .ref 0), (1, .int (zI (z1))), (2, .int (zI (z2)))]) (st' := [.int (nI (b01 (0 ≤ z1 ∧ z1 < 6)))]) (w' := compW T S P U O B Q C R tl rf) rfl rfl rfl ?_
  refine ev_ifne_b (tgt := 13) dX6_keep_4 (by decide) (fun h4 => (by exfalso; omega)) (fun h4 => ?_)
  refine ev_b bX6_keep_7_9 (lv' := [(0, .ref 0), (1, .int (zI (z1))), (2, .int (zI (z2)))]) (st' := [.int (-1), .ref 0]) (w2 := compW T S P U O B Q C R tl rf) rfl ?_
  refine ev_callV (Yc := mX6_refuse) (rng 0 49) dX6_keep_9 tw_248 kX6_refuse (m_X6_refuse_1 T S P U O B Q C R tl rf) rfl (st := []) rfl rfl rfl (by decide) (same_hw (compW T S P U O B Q C R tl rf)) (by decide) (Nat.le_of_ble_eq_true rfl) (Nat.le_refl _) (Nat.le_refl _) (fun r w' h => by obtain ⟨-, rfl⟩ := h; exact Nat.le_of_ble_eq_true rfl) ?_
  rintro _ _ ⟨rfl, rfl⟩
  refine ev_eq (lv' := [(0, .ref 0), (1, .int (zI (z1))), (2, .int (zI (z2)))]) (st' := [.int (-1)]) (w' := compW T S P U O B Q C R tl ((up rf 1 (rf 1 + 1)))) rfl rfl (same_xp (compW T S P U O B Q C R tl rf) (compW T S P U O B Q C R tl ((up rf 1 (rf 1 + 1)))) rfl) ?_
  exact ev_iret dX6_keep_12 rfl (Nat.le_refl 49) (Nat.le_refl _) (Nat.le_refl _) ⟨rfl, _, _, _, _, _, _, rfl, hQ, rfl, rfl⟩
theorem bX6_keep_13_14 {l : Launch} {E : XE} : Snd l E mX6_keep 13 14 (xs [x_iload 2]) := Snd.cons (snd_iload_n (i := 2) dX6_keep_13 rfl) Snd.nil
theorem bX6_keep_17_20 {l : Launch} {E : XE} : Snd l E mX6_keep 17 20 (xs [x_aload 0, x_push (.int (-4))]) := Snd.cons (snd_aload_n (i := 0) dX6_keep_17 rfl) (Snd.cons (snd_bipush (v := -4) dX6_keep_18 (by decide)) Snd.nil)
set_option maxHeartbeats 4000000 in
set_option maxRecDepth 100000 in
theorem p_keep_4 {l : Launch} {E : XE} (T : TopN) (S P U : SaleN) (O : OutN) (B : BillN) (Q : SeaN) (C : ScrN) (R : PrtN) (tl rf : Nat → Nat) (z1 z2 : Int) (hS : SaleOK S) (hQ : Q.fd < 2147483648) (rz1 : -2147483648 ≤ z1 ∧ z1 < 2147483648) (rz2 : -2147483648 ≤ z2 ∧ z2 < 2147483648) (h : 0 ≤ z1 ∧ z1 < 6) (h2 : z2 < 0) : MetE l E mX6_keep (1) 0 0 [.ref 0, .int (zI (z1)), .int (zI (z2))] (compW T S P U O B Q C R tl rf) (CP T S P (C.lt) (C.sz) tl (up rf 4 (rf 4 + 1)) (some (.int (-4)))) := by
  refine MetE.of (by decide +kernel) (Nat.le_of_ble_eq_true rfl) ?_
  have hca := hS.1
  have hpw := pow_ca hS
  have hac := ac_lt hS
  
  refine ev_eq (lv' := [(0, .ref 0), (1, .int (zI (z1))), (2, .int (zI (z2)))]) (st' := []) (w' := compW T S P U O B Q C R tl rf) rfl rfl rfl ?_
  refine ev_b bX6_keep_0_1 (lv' := [(0, .ref 0), (1, .int (zI (z1))), (2, .int (zI (z2)))]) (st' := [.int (zI (z1))]) (w2 := compW T S P U O B Q C R tl rf) rfl ?_
  refine ev_callS (Yc := mX6_isItem) [] dX6_keep_1 tw_475 kX6_isItem (m_X6_isItem_z z1 rz1) rfl (st := []) rfl (by decide) rfl (by decide) (Nat.le_of_ble_eq_true rfl) (Nat.le_refl _) (Nat.le_refl _) (fun r w' h => by obtain ⟨-, rfl⟩ := h; exact Nat.le_of_ble_eq_true rfl) ?_
  rintro _ _ ⟨rfl, rfl⟩
  refine ev_eq (lv' := [(0, .ref 0), (1, .int (zI (z1))), (2, .int (zI (z2)))]) (st' := [.int (nI (b01 (0 ≤ z1 ∧ z1 < 6)))]) (w' := compW T S P U O B Q C R tl rf) rfl rfl rfl ?_
  refine ev_ifne_b (tgt := 13) dX6_keep_4 (by decide) (fun h4 => ?_) (fun h4 => (by exfalso; omega))
  refine ev_b bX6_keep_13_14 (lv' := [(0, .ref 0), (1, .int (zI (z1))), (2, .int (zI (z2)))]) (st' := [.int (zI (z2))]) (w2 := compW T S P U O B Q C R tl rf) rfl ?_
  refine ev_if_ge_z (tgt := 24) (by constructor <;> omega) dX6_keep_14 (by decide) (fun h14 => (by exfalso; omega)) (fun h14 => ?_)
  refine ev_b bX6_keep_17_20 (lv' := [(0, .ref 0), (1, .int (zI (z1))), (2, .int (zI (z2)))]) (st' := [.int (-4), .ref 0]) (w2 := compW T S P U O B Q C R tl rf) rfl ?_
  refine ev_callV (Yc := mX6_refuse) (rng 0 49) dX6_keep_20 tw_248 kX6_refuse (m_X6_refuse_4 T S P U O B Q C R tl rf) rfl (st := []) rfl rfl rfl (by decide) (same_hw (compW T S P U O B Q C R tl rf)) (by decide) (Nat.le_of_ble_eq_true rfl) (Nat.le_refl _) (Nat.le_refl _) (fun r w' h => by obtain ⟨-, rfl⟩ := h; exact Nat.le_of_ble_eq_true rfl) ?_
  rintro _ _ ⟨rfl, rfl⟩
  refine ev_eq (lv' := [(0, .ref 0), (1, .int (zI (z1))), (2, .int (zI (z2)))]) (st' := [.int (-4)]) (w' := compW T S P U O B Q C R tl ((up rf 4 (rf 4 + 1)))) rfl rfl (same_xp (compW T S P U O B Q C R tl rf) (compW T S P U O B Q C R tl ((up rf 4 (rf 4 + 1)))) rfl) ?_
  exact ev_iret dX6_keep_23 rfl (Nat.le_refl 49) (Nat.le_refl _) (Nat.le_refl _) ⟨rfl, _, _, _, _, _, _, rfl, hQ, rfl, rfl⟩
theorem bX6_keep_24_27 {l : Launch} {E : XE} : Snd l E mX6_keep 24 27 (xs [x_iload 2, x_push (.int (nI 9))]) := Snd.cons (snd_iload_n (i := 2) dX6_keep_24 rfl) (Snd.cons (snd_bipush (v := nI 9) dX6_keep_25 (by decide)) Snd.nil)
theorem bX6_keep_30_33 {l : Launch} {E : XE} : Snd l E mX6_keep 30 33 (xs [x_aload 0, x_push (.int (-6))]) := Snd.cons (snd_aload_n (i := 0) dX6_keep_30 rfl) (Snd.cons (snd_bipush (v := -6) dX6_keep_31 (by decide)) Snd.nil)
set_option maxHeartbeats 4000000 in
set_option maxRecDepth 100000 in
theorem p_keep_6 {l : Launch} {E : XE} (T : TopN) (S P U : SaleN) (O : OutN) (B : BillN) (Q : SeaN) (C : ScrN) (R : PrtN) (tl rf : Nat → Nat) (z1 z2 : Int) (hS : SaleOK S) (hQ : Q.fd < 2147483648) (rz1 : -2147483648 ≤ z1 ∧ z1 < 2147483648) (rz2 : -2147483648 ≤ z2 ∧ z2 < 2147483648) (h : 0 ≤ z1 ∧ z1 < 6) (h2 : 9 < z2) : MetE l E mX6_keep (1) 0 0 [.ref 0, .int (zI (z1)), .int (zI (z2))] (compW T S P U O B Q C R tl rf) (CP T S P (C.lt) (C.sz) tl (up rf 6 (rf 6 + 1)) (some (.int (-6)))) := by
  refine MetE.of (by decide +kernel) (Nat.le_of_ble_eq_true rfl) ?_
  have hca := hS.1
  have hpw := pow_ca hS
  have hac := ac_lt hS
  
  refine ev_eq (lv' := [(0, .ref 0), (1, .int (zI (z1))), (2, .int (zI (z2)))]) (st' := []) (w' := compW T S P U O B Q C R tl rf) rfl rfl rfl ?_
  refine ev_b bX6_keep_0_1 (lv' := [(0, .ref 0), (1, .int (zI (z1))), (2, .int (zI (z2)))]) (st' := [.int (zI (z1))]) (w2 := compW T S P U O B Q C R tl rf) rfl ?_
  refine ev_callS (Yc := mX6_isItem) [] dX6_keep_1 tw_475 kX6_isItem (m_X6_isItem_z z1 rz1) rfl (st := []) rfl (by decide) rfl (by decide) (Nat.le_of_ble_eq_true rfl) (Nat.le_refl _) (Nat.le_refl _) (fun r w' h => by obtain ⟨-, rfl⟩ := h; exact Nat.le_of_ble_eq_true rfl) ?_
  rintro _ _ ⟨rfl, rfl⟩
  refine ev_eq (lv' := [(0, .ref 0), (1, .int (zI (z1))), (2, .int (zI (z2)))]) (st' := [.int (nI (b01 (0 ≤ z1 ∧ z1 < 6)))]) (w' := compW T S P U O B Q C R tl rf) rfl rfl rfl ?_
  refine ev_ifne_b (tgt := 13) dX6_keep_4 (by decide) (fun h4 => ?_) (fun h4 => (by exfalso; omega))
  refine ev_b bX6_keep_13_14 (lv' := [(0, .ref 0), (1, .int (zI (z1))), (2, .int (zI (z2)))]) (st' := [.int (zI (z2))]) (w2 := compW T S P U O B Q C R tl rf) rfl ?_
  refine ev_if_ge_z (tgt := 24) (by constructor <;> omega) dX6_keep_14 (by decide) (fun h14 => ?_) (fun h14 => (by exfalso; omega))
  refine ev_b bX6_keep_24_27 (lv' := [(0, .ref 0), (1, .int (zI (z1))), (2, .int (zI (z2)))]) (st' := [.int (nI (9)), .int (zI (z2))]) (w2 := compW T S P U O B Q C R tl rf) rfl ?_
  refine ev_top (y := zI (((9 : Nat) : Int))) (zI_nat _).symm ?_
  refine ev_icmp_le_z (tgt := 37) (by constructor <;> omega) (by constructor <;> omega) dX6_keep_27 (by decide) (fun h27 => (by exfalso; omega)) (fun h27 => ?_)
  refine ev_b bX6_keep_30_33 (lv' := [(0, .ref 0), (1, .int (zI (z1))), (2, .int (zI (z2)))]) (st' := [.int (-6), .ref 0]) (w2 := compW T S P U O B Q C R tl rf) rfl ?_
  refine ev_callV (Yc := mX6_refuse) (rng 0 49) dX6_keep_33 tw_248 kX6_refuse (m_X6_refuse_6 T S P U O B Q C R tl rf) rfl (st := []) rfl rfl rfl (by decide) (same_hw (compW T S P U O B Q C R tl rf)) (by decide) (Nat.le_of_ble_eq_true rfl) (Nat.le_refl _) (Nat.le_refl _) (fun r w' h => by obtain ⟨-, rfl⟩ := h; exact Nat.le_of_ble_eq_true rfl) ?_
  rintro _ _ ⟨rfl, rfl⟩
  refine ev_eq (lv' := [(0, .ref 0), (1, .int (zI (z1))), (2, .int (zI (z2)))]) (st' := [.int (-6)]) (w' := compW T S P U O B Q C R tl ((up rf 6 (rf 6 + 1)))) rfl rfl (same_xp (compW T S P U O B Q C R tl rf) (compW T S P U O B Q C R tl ((up rf 6 (rf 6 + 1)))) rfl) ?_
  exact ev_iret dX6_keep_36 rfl (Nat.le_refl 49) (Nat.le_refl _) (Nat.le_refl _) ⟨rfl, _, _, _, _, _, _, rfl, hQ, rfl, rfl⟩
theorem bX6_keep_37_42 {l : Launch} {E : XE} : Snd l E mX6_keep 37 42 (xs [x_aload 0, x_get 7 0, x_iload 1]) := Snd.cons (snd_aload_n (i := 0) dX6_keep_37 rfl) (Snd.cons (snd_get (ci := 7) (k := 0) dX6_keep_38 rfl inX6 (by decide) tw_207) (Snd.cons (snd_iload_n (i := 1) dX6_keep_41 rfl) Snd.nil))
theorem bX6_keep_45_52 {l : Launch} {E : XE} : Snd l E mX6_keep 45 52 (xs [x_istore 3, x_aload 0, x_get 7 0, x_iload 1, x_iload 2]) := Snd.cons (snd_istore_n (i := 3) dX6_keep_45 rfl (by decide)) (Snd.cons (snd_aload_n (i := 0) dX6_keep_46 rfl) (Snd.cons (snd_get (ci := 7) (k := 0) dX6_keep_47 rfl inX6 (by decide) tw_207) (Snd.cons (snd_iload_n (i := 1) dX6_keep_50 rfl) (Snd.cons (snd_iload_n (i := 2) dX6_keep_51 rfl) Snd.nil))))
theorem bX6_keep_55_56 {l : Launch} {E : XE} : Snd l E mX6_keep 55 56 (xs [x_iload 3]) := Snd.cons (snd_iload_n (i := 3) dX6_keep_55 rfl) Snd.nil
set_option maxHeartbeats 4000000 in
set_option maxRecDepth 100000 in
theorem p_keep_ok {l : Launch} {E : XE} (T : TopN) (S P U : SaleN) (O : OutN) (B : BillN) (Q : SeaN) (C : ScrN) (R : PrtN) (tl rf : Nat → Nat) (i v : Nat) (hS : SaleOK S) (hQ : Q.fd < 2147483648) (hi : i < 6) (hv : v ≤ 9) : MetE l E mX6_keep (2) 0 0 [.ref 0, .int (nI (i)), .int (nI (v))] (compW T S P U O B Q C R tl rf) (CP T (keepS S i v) P (C.lt) (C.sz) tl rf (some (.int (nI (S.rs i))))) := by
  refine MetE.of (by decide +kernel) (Nat.le_of_ble_eq_true rfl) ?_
  have hca := hS.1
  have hpw := pow_ca hS
  have hac := ac_lt hS
  
  refine ev_eq (lv' := [(0, .ref 0), (1, .int (nI (i))), (2, .int (nI (v)))]) (st' := []) (w' := compW T S P U O B Q C R tl rf) rfl rfl rfl ?_
  refine ev_b bX6_keep_0_1 (lv' := [(0, .ref 0), (1, .int (nI (i))), (2, .int (nI (v)))]) (st' := [.int (nI (i))]) (w2 := compW T S P U O B Q C R tl rf) rfl ?_
  refine ev_callS (Yc := mX6_isItem) [] dX6_keep_1 tw_475 kX6_isItem (m_X6_isItem i (by omega)) rfl (st := []) rfl (by decide) rfl (by decide) (Nat.le_of_ble_eq_true rfl) (Nat.le_refl _) (Nat.le_refl _) (fun r w' h => by obtain ⟨-, rfl⟩ := h; exact Nat.le_of_ble_eq_true rfl) ?_
  rintro _ _ ⟨rfl, rfl⟩
  refine ev_eq (lv' := [(0, .ref 0), (1, .int (nI (i))), (2, .int (nI (v)))]) (st' := [.int (nI (b01 (i < 6)))]) (w' := compW T S P U O B Q C R tl rf) rfl rfl rfl ?_
  refine ev_ifne_b (tgt := 13) dX6_keep_4 (by decide) (fun h4 => ?_) (fun h4 => (by exfalso; omega))
  refine ev_b bX6_keep_13_14 (lv' := [(0, .ref 0), (1, .int (nI (i))), (2, .int (nI (v)))]) (st' := [.int (nI (v))]) (w2 := compW T S P U O B Q C R tl rf) rfl ?_
  refine ev_if_ge_n (tgt := 24) (by omega) dX6_keep_14 (by decide) (fun h14 => ?_) (fun h14 => (by exfalso; omega))
  refine ev_b bX6_keep_24_27 (lv' := [(0, .ref 0), (1, .int (nI (i))), (2, .int (nI (v)))]) (st' := [.int (nI (9)), .int (nI (v))]) (w2 := compW T S P U O B Q C R tl rf) rfl ?_
  refine ev_icmp_le_n (tgt := 37) (by omega) (by decide) dX6_keep_27 (by decide) (fun h27 => ?_) (fun h27 => (by exfalso; omega))
  refine ev_b bX6_keep_37_42 (lv' := [(0, .ref 0), (1, .int (nI (i))), (2, .int (nI (v)))]) (st' := [.int (nI (i)), .ref 1]) (w2 := compW T S P U O B Q C R tl rf) rfl ?_
  refine ev_callVN (Yc := mX3_reserveOf) [1, 2, 3, 4, 5, 6, 7, 8] dX6_keep_42 tn_476 kX3_reserveOf (m_X3_reserveOf S i hi) rfl (st := []) rfl rfl rfl (by decide) hw_comp__1 (by decide) (Nat.le_of_ble_eq_true rfl) (Nat.le_refl _) (Nat.le_refl _) (fun r w' h => by obtain ⟨-, rfl⟩ := h; exact Nat.le_of_ble_eq_true rfl) ?_
  rintro _ _ ⟨rfl, rfl⟩
  refine ev_eq (lv' := [(0, .ref 0), (1, .int (nI (i))), (2, .int (nI (v)))]) (st' := [.int (nI (S.rs i))]) (w' := compW T S P U O B Q C R tl rf) rfl rfl xp_comp__1 ?_
  refine ev_b bX6_keep_45_52 (lv' := [(3, .int (nI (S.rs i))), (0, .ref 0), (1, .int (nI (i))), (2, .int (nI (v)))]) (st' := [.int (nI (v)), .int (nI (i)), .ref 1]) (w2 := compW T S P U O B Q C R tl rf) rfl ?_
  refine ev_callVN (Yc := mX3_setReserve) [1, 2, 3, 4, 5, 6, 7, 8] dX6_keep_52 tn_480 kX3_setReserve (m_X3_setReserve S i v hi) rfl (st := []) rfl rfl rfl (by decide) hw_comp__1 (by decide) (Nat.le_of_ble_eq_true rfl) (Nat.le_refl _) (Nat.le_refl _) (fun r w' h => by obtain ⟨-, rfl⟩ := h; exact Nat.le_of_ble_eq_true rfl) ?_
  rintro _ _ ⟨rfl, rfl⟩
  refine ev_eq (lv' := [(3, .int (nI (S.rs i))), (0, .ref 0), (1, .int (nI (i))), (2, .int (nI (v)))]) (st' := []) (w' := compW T ((keepS S i v)) P U O B Q C R tl rf) rfl rfl xp_comp__1 ?_
  refine ev_b bX6_keep_55_56 (lv' := [(3, .int (nI (S.rs i))), (0, .ref 0), (1, .int (nI (i))), (2, .int (nI (v)))]) (st' := [.int (nI (S.rs i))]) (w2 := compW T ((keepS S i v)) P U O B Q C R tl rf) rfl ?_
  exact ev_iret dX6_keep_56 rfl (Nat.le_refl 49) (Nat.le_refl _) (Nat.le_refl _) ⟨rfl, _, _, _, _, _, _, rfl, hQ, rfl, rfl⟩
