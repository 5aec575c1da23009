theorem bX6_least_0_5 {l : Launch} {E : XE} : Snd l E mX6_least 0 5 (xs [x_aload 0, x_get 7 0, x_iload 1]) := Snd.cons (snd_aload_n (i := 0) dX6_least_0 rfl) (Snd.cons (snd_get (ci := 7) (k := 0) dX6_least_1 rfl inX6 (by decide) tw_207) (Snd.cons (snd_iload_n (i := 1) dX6_least_4 rfl) Snd.nil))
theorem bX6_least_11_13 {l : Launch} {E : XE} : Snd l E mX6_least 11 13 (xs [x_aload 0, x_push (.int (-1))]) := Snd.cons (snd_aload_n (i := 0) dX6_least_11 rfl) (Snd.cons (snd_iconst (v := -1) dX6_least_12 (by decide)) Snd.nil)
set_option maxHeartbeats 4000000 in
set_option maxRecDepth 100000 in
theorem p_least_1 {l : Launch} {E : XE} (T : TopN) (S P U : SaleN) (O : OutN) (B : BillN) (Q : SeaN) (C : ScrN) (R : PrtN) (tl rf : Nat → Nat) (z1 : Int) (hS : SaleOK S) (hQ : Q.fd < 2147483648) (rz1 : -2147483648 ≤ z1 ∧ z1 < 2147483648) (h : ¬ (0 ≤ z1 ∧ z1 < S.ca)) : MetE l E mX6_least (1) 0 0 [.ref 0, .int (zI (z1))] (compW T S P U O B Q C R tl rf) (CP T S P (C.lt) (C.sz) tl (up rf 1 (rf 1 + 1)) (some (.int (-1)))) := by
  refine MetE.of (by decide +kernel) (Nat.le_of_ble_eq_true rfl) ?_
  have hca := hS.1
  have hpw := pow_ca hS
  have hac := ac_lt hS
  
  refine ev_eq (lv' := [(0, .ref 0), (1, .int (zI (z1)))]) (st' := []) (w' := compW T S P U O B Q C R tl rf) rfl rfl rfl ?_
  refine ev_b bX6_least_0_5 (lv' := [(0, .ref 0), (1, .int (zI (z1)))]) (st' := [.int (zI (z1)), .ref 1]) (w2 := compW T S P U O B Q C R tl rf) rfl ?_
  refine ev_callVN (Yc := mX3_hasBid) [1, 2, 3, 4, 5, 6, 7, 8] dX6_least_5 tn_444 kX3_hasBid (m_X3_hasBid_z S z1 hS rz1) rfl (st := []) rfl rfl rfl (by decide) hw_comp__1 (by decide) (Nat.le_of_ble_eq_true rfl) (Nat.le_refl _) (Nat.le_refl _) (fun r w' h => by obtain ⟨-, rfl⟩ := h; exact Nat.le_of_ble_eq_true rfl) ?_
  rintro _ _ ⟨rfl, rfl⟩
  refine ev_eq (lv' := [(0, .ref 0), (1, .int (zI (z1)))]) (st' := [.int (nI (b01 (0 ≤ z1 ∧ z1 < S.ca)))]) (w' := compW T S P U O B Q C R tl rf) rfl rfl xp_comp__1 ?_
  refine ev_ifne_b (tgt := 17) dX6_least_8 (by decide) (fun h8 => (by exfalso; omega)) (fun h8 => ?_)
  refine ev_b bX6_least_11_13 (lv' := [(0, .ref 0), (1, .int (zI (z1)))]) (st' := [.int (-1), .ref 0]) (w2 := compW T S P U O B Q C R tl rf) rfl ?_
  refine ev_callV (Yc := mX6_refuse) (rng 0 49) dX6_least_13 tw_248 kX6_refuse (m_X6_refuse_1 T S P U O B Q C R tl rf) rfl (st := []) rfl rfl rfl (by decide) comp_hw (by decide) (Nat.le_of_ble_eq_true rfl) (Nat.le_refl _) (Nat.le_refl _) (fun r w' h => by obtain ⟨-, rfl⟩ := h; exact Nat.le_of_ble_eq_true rfl) ?_
  rintro _ _ ⟨rfl, rfl⟩
  refine ev_eq (lv' := [(0, .ref 0), (1, .int (zI (z1)))]) (st' := [.int (-1)]) (w' := compW T S P U O B Q C R tl ((up rf 1 (rf 1 + 1)))) rfl rfl comp_xp ?_
  exact ev_iret dX6_least_16 rfl (Nat.le_refl 49) (Nat.le_refl _) (Nat.le_refl _) ⟨rfl, _, _, _, _, _, _, rfl, hQ, rfl, rfl⟩
theorem bX6_least_17_25 {l : Launch} {E : XE} : Snd l E mX6_least 17 25 (xs [x_aload 0, x_get 7 2, x_aload 0, x_get 7 0]) := Snd.cons (snd_aload_n (i := 0) dX6_least_17 rfl) (Snd.cons (snd_get (ci := 7) (k := 2) dX6_least_18 rfl inX6 (by decide) tw_209) (Snd.cons (snd_aload_n (i := 0) dX6_least_21 rfl) (Snd.cons (snd_get (ci := 7) (k := 0) dX6_least_22 rfl inX6 (by decide) tw_207) Snd.nil)))
theorem bX6_least_28_38 {l : Launch} {E : XE} : Snd l E mX6_least 28 38 (xs [x_aload 0, x_get 7 2, x_dup, x_get 4 8, x_push (.int (nI 1)), x_iload 1]) := Snd.cons (snd_aload_n (i := 0) dX6_least_28 rfl) (Snd.cons (snd_get (ci := 7) (k := 2) dX6_least_29 rfl inX6 (by decide) tw_209) (Snd.cons (snd_dup dX6_least_32) (Snd.cons (snd_getN (ci := 4) (k := 8) dX6_least_33 rfl inX3 (by decide) tn_48) (Snd.cons (snd_iconst (v := nI 1) dX6_least_36 (by decide)) (Snd.cons (snd_iload_n (i := 1) dX6_least_37 rfl) Snd.nil)))))
theorem bX6_least_40_43 {l : Launch} {E : XE} : Snd l E mX6_least 40 43 (xs [x_puti 4 8]) := Snd.cons (snd_putiN (ci := 4) (k := 8) dX6_least_40 rfl inX3 tyX3_ok nmX3 (by decide) tn_48 rfl rfl) Snd.nil
theorem bX6_least_43_45 {l : Launch} {E : XE} : Snd l E mX6_least 43 45 (xs [x_push (.int (nI 1)), x_istore 2]) := Snd.cons (snd_iconst (v := nI 1) dX6_least_43 (by decide)) (Snd.cons (snd_istore_n (i := 2) dX6_least_44 rfl (by decide)) Snd.nil)
theorem bX6_least_45_48 {l : Launch} {E : XE} : Snd l E mX6_least 45 48 (xs [x_iload 2, x_push (.int (nI 99))]) := Snd.cons (snd_iload_n (i := 2) dX6_least_45 rfl) (Snd.cons (snd_bipush (v := nI 99) dX6_least_46 (by decide)) Snd.nil)
theorem bX6_least_84_86 {l : Launch} {E : XE} : Snd l E mX6_least 84 86 (xs [x_push (.int (-9))]) := Snd.cons (snd_bipush (v := -9) dX6_least_84 (by decide)) Snd.nil
theorem bX6_least_51_57 {l : Launch} {E : XE} : Snd l E mX6_least 51 57 (xs [x_aload 0, x_get 7 2, x_iload 1, x_iload 2]) := Snd.cons (snd_aload_n (i := 0) dX6_least_51 rfl) (Snd.cons (snd_get (ci := 7) (k := 2) dX6_least_52 rfl inX6 (by decide) tw_209) (Snd.cons (snd_iload_n (i := 1) dX6_least_55 rfl) (Snd.cons (snd_iload_n (i := 2) dX6_least_56 rfl) Snd.nil)))
theorem bX6_least_60_65 {l : Launch} {E : XE} : Snd l E mX6_least 60 65 (xs [x_aload 0, x_aload 0, x_get 7 2]) := Snd.cons (snd_aload_n (i := 0) dX6_least_60 rfl) (Snd.cons (snd_aload_n (i := 0) dX6_least_61 rfl) (Snd.cons (snd_get (ci := 7) (k := 2) dX6_least_62 rfl inX6 (by decide) tw_209) Snd.nil))
theorem bX6_least_68_69 {l : Launch} {E : XE} : Snd l E mX6_least 68 69 (xs [x_iload 1]) := Snd.cons (snd_iload_n (i := 1) dX6_least_68 rfl) Snd.nil
theorem bX6_least_72_73 {l : Launch} {E : XE} : Snd l E mX6_least 72 73 (xs [x_push (.int (nI 1))]) := Snd.cons (snd_iconst (v := nI 1) dX6_least_72 (by decide)) Snd.nil
theorem bX6_least_81_45 {l : Launch} {E : XE} : Snd l E mX6_least 81 45 (xs [x_id]) := Snd.cons (snd_goto (tgt := 45) dX6_least_81 (by decide)) Snd.nil
theorem bX6_least_76_77 {l : Launch} {E : XE} : Snd l E mX6_least 76 77 (xs [x_iload 2]) := Snd.cons (snd_iload_n (i := 2) dX6_least_76 rfl) Snd.nil
set_option maxHeartbeats 4000000 in
set_option maxRecDepth 100000 in
theorem p_least_ok {l : Launch} {E : XE} (T : TopN) (S P U : SaleN) (O : OutN) (B : BillN) (Q : SeaN) (C : ScrN) (R : PrtN) (tl rf : Nat → Nat) (b : Nat) (hS : SaleOK S) (hQ : Q.fd < 2147483648) (hb : b < S.ca) : MetE l E mX6_least (5) 0 0 [.ref 0, .int (nI (b))] (compW T S P U O B Q C R tl rf) (CP T S P (C.lt) (C.sz) tl rf (some (.int (zI (leZ S b 99 0))))) := by
  refine MetE.of (by decide +kernel) (Nat.le_of_ble_eq_true rfl) ?_
  have hca := hS.1
  have hpw := pow_ca hS
  have hac := ac_lt hS
  
  refine ev_eq (lv' := [(0, .ref 0), (1, .int (nI (b)))]) (st' := []) (w' := compW T S P U O B Q C R tl rf) rfl rfl rfl ?_
  refine ev_b bX6_least_0_5 (lv' := [(0, .ref 0), (1, .int (nI (b)))]) (st' := [.int (nI (b)), .ref 1]) (w2 := compW T S P U O B Q C R tl rf) rfl ?_
  refine ev_callVN (Yc := mX3_hasBid) [1, 2, 3, 4, 5, 6, 7, 8] dX6_least_5 tn_444 kX3_hasBid (m_X3_hasBid S b hS (by omega)) rfl (st := []) rfl rfl rfl (by decide) hw_comp__1 (by decide) (Nat.le_of_ble_eq_true rfl) (Nat.le_refl _) (Nat.le_refl _) (fun r w' h => by obtain ⟨-, rfl⟩ := h; exact Nat.le_of_ble_eq_true rfl) ?_
  rintro _ _ ⟨rfl, rfl⟩
  refine ev_eq (lv' := [(0, .ref 0), (1, .int (nI (b)))]) (st' := [.int (nI (b01 (b < S.ca)))]) (w' := compW T S P U O B Q C R tl rf) rfl rfl xp_comp__1 ?_
  refine ev_ifne_b (tgt := 17) dX6_least_8 (by decide) (fun h8 => ?_) (fun h8 => (by exfalso; omega))
  refine ev_b bX6_least_17_25 (lv' := [(0, .ref 0), (1, .int (nI (b)))]) (st' := [.ref 1, .ref 17]) (w2 := compW T S P U O B Q C R tl rf) rfl ?_
  refine ev_callVN (Yc := mX3_takeFrom) [17, 18, 19, 20, 21, 22, 23, 24, 1, 2, 3, 4, 5, 6, 7, 8] dX6_least_25 tn_372 kX3_takeFrom (m_X3_takeFrom U S) rfl (st := []) rfl rfl rfl (by decide) hw_comp__17_1 (by decide) (Nat.le_of_ble_eq_true rfl) (Nat.le_refl _) (Nat.le_refl _) (fun r w' h => by obtain ⟨-, rfl⟩ := h; exact Nat.le_of_ble_eq_true rfl) ?_
  rintro _ _ ⟨rfl, rfl⟩
  refine ev_eq (lv' := [(0, .ref 0), (1, .int (nI (b)))]) (st' := []) (w' := compW T S P S O B Q C R tl rf) rfl rfl xp_comp__17_1 ?_
  refine ev_b bX6_least_28_38 (lv' := [(0, .ref 0), (1, .int (nI (b)))]) (st' := [.int (nI (b)), .int (nI (1)), .int (nI (S.ac)), .ref 17]) (w2 := compW T S P S O B Q C R tl rf) rfl ?_
  refine ev_ishl_n (by omega) dX6_least_38 ?_
  refine ev_ior_n dX6_least_39 ?_
  refine ev_b bX6_least_40_43 (lv' := [(0, .ref 0), (1, .int (nI (b)))]) (st' := []) (w2 := compW T S P ((S.bd, S.st, S.pr, S.ow, S.kd, S.fg, S.rs, S.ca, S.ac ||| (1 <<< b)) : SaleN) O B Q C R tl rf) rfl ?_
  refine ev_eq (w' := compW T S P ((onS S b)) O B Q C R tl rf) rfl rfl rfl ?_
  refine ev_b bX6_least_43_45 (lv' := [(2, .int (nI (1))), (0, .ref 0), (1, .int (nI (b)))]) (st' := []) (w2 := compW T S P ((onS S b)) O B Q C R tl rf) rfl ?_
  have L45 : ∀ (j_ k : Nat), k + j_ = 99 → ∀ (U1 : SaleN) (O1 : OutN), ((∀ p, priceS U1 b p = leS S b p) ∧ SaleOK U1 ∧ leZ S b 99 0 = leZ S b (99 - k) k ∧ b < U1.ca) → Ev l E mX6_least (5) 0 0 (compW T S P U O B Q C R tl rf) (CP T S P (C.lt) (C.sz) tl rf (some (.int (zI (leZ S b 99 0))))) 0 0 45 [(2, .int (nI (k + 1))), (0, .ref 0), (1, .int (nI (b)))] [] (compW T S P U1 O1 B Q C R tl rf) := by
    intro j_
    induction j_ with
    | zero =>
      intro k hk45 U1 O1 hinv45
      replace hk45 : k = 99 := hk45
      refine ev_b bX6_least_45_48 (lv' := [(2, .int (nI (k + 1))), (0, .ref 0), (1, .int (nI (b)))]) (st' := [.int (nI (99)), .int (nI (k + 1))]) (w2 := compW T S P U1 O1 B Q C R tl rf) rfl ?_
      refine ev_icmp_gt_n (tgt := 84) (by omega) (by decide) dX6_least_48 (by decide) (fun h48 => ?_) (fun h48 => (by exfalso; omega))
      refine ev_b bX6_least_84_86 (lv' := [(2, .int (nI (k + 1))), (0, .ref 0), (1, .int (nI (b)))]) (st' := [.int (-9)]) (w2 := compW T S P U1 O1 B Q C R tl rf) rfl ?_
      exact ev_iret dX6_least_86 rfl (Nat.le_refl 49) (Nat.le_refl _) (Nat.le_refl _) ⟨by first | (rw [hst, if_pos h73]; exact congrArg some (congrArg Value.int (zI_nat _).symm)) | (rw [hinv45.2.2.1, hk45]; rfl), _, _, _, _, _, _, rfl, hQ, rfl, rfl⟩
    | succ j_ ih45 =>
      intro k hk45 U1 O1 hinv45
      have hlt45 : k < 99 := by omega
      have hst := le_step hinv45.2.2.1 hlt45
      have hU : SaleOK (leS S b (k + 1)) := le_ok hS hb (by omega)
      refine ev_b bX6_least_45_48 (lv' := [(2, .int (nI (k + 1))), (0, .ref 0), (1, .int (nI (b)))]) (st' := [.int (nI (99)), .int (nI (k + 1))]) (w2 := compW T S P U1 O1 B Q C R tl rf) rfl ?_
      refine ev_icmp_gt_n (tgt := 84) (by omega) (by decide) dX6_least_48 (by decide) (fun h48 => (by exfalso; omega)) (fun h48 => ?_)
      refine ev_b bX6_least_51_57 (lv' := [(2, .int (nI (k + 1))), (0, .ref 0), (1, .int (nI (b)))]) (st' := [.int (nI (k + 1)), .int (nI (b)), .ref 17]) (w2 := compW T S P U1 O1 B Q C R tl rf) rfl ?_
      refine ev_callVN (Yc := mX3_setPrice) [17, 18, 19, 20, 21, 22, 23, 24] dX6_least_57 tn_457 kX3_setPrice (m_X3_setPrice U1 b (k + 1) hinv45.2.1 hinv45.2.2.2) rfl (st := []) rfl rfl rfl (by decide) hw_comp__17 (by decide) (Nat.le_of_ble_eq_true rfl) (Nat.le_refl _) (Nat.le_refl _) (fun r w' h => by obtain ⟨-, rfl⟩ := h; exact Nat.le_of_ble_eq_true rfl) ?_
      rintro _ _ ⟨rfl, rfl⟩
      refine ev_eq (lv' := [(2, .int (nI (k + 1))), (0, .ref 0), (1, .int (nI (b)))]) (st' := []) (w' := compW T S P ((priceS U1 b (k + 1))) O1 B Q C R tl rf) rfl rfl xp_comp__17 ?_
      rw [hinv45.1 (k + 1)]
      refine ev_b bX6_least_60_65 (lv' := [(2, .int (nI (k + 1))), (0, .ref 0), (1, .int (nI (b)))]) (st' := [.ref 17, .ref 0]) (w2 := compW T S P ((leS S b (k + 1))) O1 B Q C R tl rf) rfl ?_
      refine ev_callV (Yc := mX6_winnersOf) (rng 0 49) dX6_least_65 tw_493 kX6_winnersOf (m_X6_winnersOf_U T S P ((leS S b (k + 1))) O1 B Q C R tl rf hU) rfl (st := []) rfl rfl rfl (by decide) comp_hw (by decide) (Nat.le_of_ble_eq_true rfl) (Nat.le_refl _) (Nat.le_refl _) (fun r w' h => by obtain ⟨-, O', rfl, -⟩ := h; exact Nat.le_refl 49) ?_
      rintro _ _ ⟨rfl, O2, rfl, hK2⟩
      refine ev_eq (lv' := [(2, .int (nI (k + 1))), (0, .ref 0), (1, .int (nI (b)))]) (st' := [.int (nI (winB (leS S b (k + 1)) 1023))]) (w' := compW T S P ((leS S b (k + 1))) O2 B Q C R tl rf) rfl rfl comp_xp ?_
      have hwb := winB_lt hU 1023
      refine ev_b bX6_least_68_69 (lv' := [(2, .int (nI (k + 1))), (0, .ref 0), (1, .int (nI (b)))]) (st' := [.int (nI (b)), .int (nI (winB (leS S b (k + 1)) 1023))]) (w2 := compW T S P ((leS S b (k + 1))) O2 B Q C R tl rf) rfl ?_
      refine ev_callS (Yc := mX6_bitAt) [] dX6_least_69 tw_446 kX6_bitAt (m_X6_bitAt (winB (leS S b (k + 1)) 1023) b (by omega) (by omega)) rfl (st := []) rfl (by decide) rfl (by decide) (Nat.le_of_ble_eq_true rfl) (Nat.le_refl _) (Nat.le_refl _) (fun r w' h => by obtain ⟨-, rfl⟩ := h; exact Nat.le_of_ble_eq_true rfl) ?_
      rintro _ _ ⟨rfl, rfl⟩
      refine ev_eq (lv' := [(2, .int (nI (k + 1))), (0, .ref 0), (1, .int (nI (b)))]) (st' := [.int (nI (b01 ((winB (leS S b (k + 1)) 1023).testBit b = true)))]) (w' := compW T S P ((leS S b (k + 1))) O2 B Q C R tl rf) rfl rfl rfl ?_
      refine ev_b bX6_least_72_73 (lv' := [(2, .int (nI (k + 1))), (0, .ref 0), (1, .int (nI (b)))]) (st' := [.int (nI (1)), .int (nI (b01 ((winB (leS S b (k + 1)) 1023).testBit b = true)))]) (w2 := compW T S P ((leS S b (k + 1))) O2 B Q C R tl rf) rfl ?_
      refine ev_icmpne_b1 (tgt := 78) dX6_least_73 (by decide) (fun h73 => ?_) (fun h73 => ?_)
      · skip
        have hnext : leZ S b 99 0 = leZ S b (99 - (k + 1)) (k + 1) := by rw [hst, if_neg h73]
        refine ev_iinc_n (x := k + 1) (v := 1) dX6_least_78 rfl (by decide) ?_
        refine ev_eq (lv' := [(2, .int (nI ((k + 1) + 1))), (0, .ref 0), (1, .int (nI (b)))]) rfl rfl rfl ?_
        refine ev_b bX6_least_81_45 (lv' := [(2, .int (nI ((k + 1) + 1))), (0, .ref 0), (1, .int (nI (b)))]) (st' := []) (w2 := compW T S P ((leS S b (k + 1))) O2 B Q C R tl rf) rfl ?_
        exact ih45 (k + 1) (by omega) (leS S b (k + 1)) O2 ⟨fun p => le_le p, hU, hnext, hb⟩
      · skip
        refine ev_b bX6_least_76_77 (lv' := [(2, .int (nI (k + 1))), (0, .ref 0), (1, .int (nI (b)))]) (st' := [.int (nI (k + 1))]) (w2 := compW T S P ((leS S b (k + 1))) O2 B Q C R tl rf) rfl ?_
        exact ev_iret dX6_least_77 rfl (Nat.le_refl 49) (Nat.le_refl _) (Nat.le_refl _) ⟨by first | (rw [hst, if_pos h73]; exact congrArg some (congrArg Value.int (zI_nat _).symm)) | (rw [hinv45.2.2.1, hk45]; rfl), _, _, _, _, _, _, rfl, hQ, rfl, rfl⟩
  exact L45 99 0 (by omega) (onS S b) O ⟨fun p => rfl, on_ok hS hb, rfl, hb⟩
