theorem bX4_forget_0_5 {l : Launch} {E : XE} : Snd l E mX4_forget 0 5 (xs [x_aload 0, x_push (.int (nI 0)), x_puti 5 6]) := Snd.cons (snd_aload_n (i := 0) dX4_forget_0 rfl) (Snd.cons (snd_iconst (v := nI 0) dX4_forget_1 (by decide)) (Snd.cons (snd_puti (ci := 5) (k := 6) dX4_forget_2 rfl inX4 tyX4_ok nmX4 (by decide) tw_166 rfl rfl) Snd.nil))
set_option maxHeartbeats 4000000 in
set_option maxRecDepth 100000 in
theorem m_X4_forget {l : Launch} {E : XE} (C : ScrN)  : MetE l E mX4_forget (0) 0 0 [.ref 0] (scrW 0 C) (fun r w' => r = none ∧ w' = scrW 0 ((C.lt, C.st, C.wd, C.f1, C.f2, C.f3, 0, C.pl, C.fa, C.sn) : ScrN)) := by
  refine MetE.of (by decide +kernel) (Nat.le_of_ble_eq_true rfl) ?_
  refine ev_eq (lv' := [(0, .ref 0)]) (st' := []) (w' := scrW 0 C) rfl rfl rfl ?_
  refine ev_b bX4_forget_0_5 (lv' := [(0, .ref 0)]) (st' := []) (w2 := scrW 0 ((C.lt, C.st, C.wd, C.f1, C.f2, C.f3, 0, C.pl, C.fa, C.sn) : ScrN)) rfl ?_
  exact ev_vret dX4_forget_5 rfl (Nat.le_of_ble_eq_true rfl) (Nat.le_refl _) (Nat.le_refl _) ⟨rfl, rfl⟩
theorem bX6_auction_0_4 {l : Launch} {E : XE} : Snd l E mX6_auction 0 4 (xs [x_aload 0, x_get 7 6]) := Snd.cons (snd_aload_n (i := 0) dX6_auction_0 rfl) (Snd.cons (snd_get (ci := 7) (k := 6) dX6_auction_1 rfl inX6 (by decide) tw_213) Snd.nil)
theorem bX6_auction_7_11 {l : Launch} {E : XE} : Snd l E mX6_auction 7 11 (xs [x_istore 1, x_iload 1, x_push (.int (-9))]) := Snd.cons (snd_istore_n (i := 1) dX6_auction_7 rfl (by decide)) (Snd.cons (snd_iload_n (i := 1) dX6_auction_8 rfl) (Snd.cons (snd_bipush (v := -9) dX6_auction_9 (by decide)) Snd.nil))
theorem bX6_auction_21_24 {l : Launch} {E : XE} : Snd l E mX6_auction 21 24 (xs [x_push (.int (-1000))]) := Snd.cons (snd_sipush (v := -1000) dX6_auction_21 (by decide)) Snd.nil
theorem bX6_auction_24_25 {l : Launch} {E : XE} : Snd l E mX6_auction 24 25 (xs [x_iload 1]) := Snd.cons (snd_iload_n (i := 1) dX6_auction_24 rfl) Snd.nil
theorem bX6_auction_26_31 {l : Launch} {E : XE} : Snd l E mX6_auction 26 31 (xs [x_istore 2, x_aload 0, x_get 7 6]) := Snd.cons (snd_istore_n (i := 2) dX6_auction_26 rfl (by decide)) (Snd.cons (snd_aload_n (i := 0) dX6_auction_27 rfl) (Snd.cons (snd_get (ci := 7) (k := 6) dX6_auction_28 rfl inX6 (by decide) tw_213) Snd.nil))
theorem bX6_auction_34_35 {l : Launch} {E : XE} : Snd l E mX6_auction 34 35 (xs [x_iload 2]) := Snd.cons (snd_iload_n (i := 2) dX6_auction_34 rfl) Snd.nil
set_option maxHeartbeats 4000000 in
set_option maxRecDepth 100000 in
theorem p_auction_form {l : Launch} {E : XE} (T : TopN) (S P U : SaleN) (O : OutN) (B : BillN) (Q : SeaN) (C : ScrN) (R : PrtN) (tl rf : Nat → Nat)  (hS : SaleOK S) (hQ : Q.fd < 2147483648) (hC : ScrOK C) (hf : (prsS C).fa ≠ -9) : MetE l E mX6_auction (11) 0 0 [.ref 0] (compW T S P U O B Q C R tl rf) (CP T S P (C.lt) (0) tl rf (some (.int (zI (-1000 - (prsS C).fa))))) := by
  refine MetE.of (by decide +kernel) (Nat.le_of_ble_eq_true rfl) ?_
  have hca := hS.1
  have hpw := pow_ca hS
  have hac := ac_lt hS
  
  refine ev_eq (lv' := [(0, .ref 0)]) (st' := []) (w' := compW T S P U O B Q C R tl rf) rfl rfl rfl ?_
  refine ev_b bX6_auction_0_4 (lv' := [(0, .ref 0)]) (st' := [.ref 38]) (w2 := compW T S P U O B Q C R tl rf) rfl ?_
  refine ev_callVN (Yc := mX4_parse) [38, 39, 40, 41, 42, 43, 44] dX6_auction_4 tn_265 kX4_parse (m_X4_parse C hC) rfl (st := []) rfl rfl rfl (by decide) hw_comp__38 (by decide) (Nat.le_of_ble_eq_true rfl) (Nat.le_refl _) (Nat.le_refl _) (fun r w' h => by obtain ⟨-, rfl⟩ := h; exact Nat.le_of_ble_eq_true rfl) ?_
  rintro _ _ ⟨rfl, rfl⟩
  refine ev_eq (lv' := [(0, .ref 0)]) (st' := [.int (zI ((prsS C).fa))]) (w' := compW T S P U O B Q ((prsS C)) R tl rf) rfl rfl xp_comp__38 ?_
  have hpi := prs_i (C := C) hC.1
  have hpb : -9 ≤ (prsS C).fa ∧ (prsS C).fa ≤ 96 := by
    have h := hpi.2.2.1
    have h1 := hpi.1
    have h2 := hC.1
    obtain ⟨h3, h4⟩ := h
    dsimp only at h4
    omega
  refine ev_b bX6_auction_7_11 (lv' := [(1, .int (zI ((prsS C).fa))), (0, .ref 0)]) (st' := [.int (-9), .int (zI ((prsS C).fa))]) (w2 := compW T S P U O B Q ((prsS C)) R tl rf) rfl ?_
  refine ev_top (y := zI (-9)) (by decide) ?_
  refine ev_icmp_ne_z (tgt := 21) (by constructor <;> omega) (by constructor <;> omega) dX6_auction_11 (by decide) (fun h11 => ?_) (fun h11 => (by exfalso; omega))
  refine ev_b bX6_auction_21_24 (lv' := [(1, .int (zI ((prsS C).fa))), (0, .ref 0)]) (st' := [.int (-1000)]) (w2 := compW T S P U O B Q ((prsS C)) R tl rf) rfl ?_
  refine ev_top (y := zI (-1000)) (by decide) ?_
  refine ev_b bX6_auction_24_25 (lv' := [(1, .int (zI ((prsS C).fa))), (0, .ref 0)]) (st' := [.int (zI ((prsS C).fa)), .int (zI (-1000))]) (w2 := compW T S P U O B Q ((prsS C)) R tl rf) rfl ?_
  refine ev_isub_z dX6_auction_25 ?_
  refine ev_b bX6_auction_26_31 (lv' := [(2, .int (zI ((-1000) - ((prsS C).fa)))), (1, .int (zI ((prsS C).fa))), (0, .ref 0)]) (st' := [.ref 38]) (w2 := compW T S P U O B Q ((prsS C)) R tl rf) rfl ?_
  refine ev_callVN (Yc := mX4_forget) [38, 39, 40, 41, 42, 43, 44] dX6_auction_31 tn_428 kX4_forget (m_X4_forget ((prsS C))) rfl (st := []) rfl rfl rfl (by decide) hw_comp__38 (by decide) (Nat.le_of_ble_eq_true rfl) (Nat.le_refl _) (Nat.le_refl _) (fun r w' h => by obtain ⟨-, rfl⟩ := h; exact Nat.le_of_ble_eq_true rfl) ?_
  rintro _ _ ⟨rfl, rfl⟩
  refine ev_eq (lv' := [(2, .int (zI ((-1000) - ((prsS C).fa)))), (1, .int (zI ((prsS C).fa))), (0, .ref 0)]) (st' := []) (w' := compW T S P U O B Q ((ScrN.lt ((prsS C)), ScrN.st ((prsS C)), ScrN.wd ((prsS C)), ScrN.f1 ((prsS C)), ScrN.f2 ((prsS C)), ScrN.f3 ((prsS C)), 0, ScrN.pl ((prsS C)), ScrN.fa ((prsS C)), ScrN.sn ((prsS C))) : ScrN) R tl rf) rfl rfl xp_comp__38 ?_
  refine ev_b bX6_auction_34_35 (lv' := [(2, .int (zI ((-1000) - ((prsS C).fa)))), (1, .int (zI ((prsS C).fa))), (0, .ref 0)]) (st' := [.int (zI ((-1000) - ((prsS C).fa)))]) (w2 := compW T S P U O B Q ((ScrN.lt ((prsS C)), ScrN.st ((prsS C)), ScrN.wd ((prsS C)), ScrN.f1 ((prsS C)), ScrN.f2 ((prsS C)), ScrN.f3 ((prsS C)), 0, ScrN.pl ((prsS C)), ScrN.fa ((prsS C)), ScrN.sn ((prsS C))) : ScrN) R tl rf) rfl ?_
  exact ev_iret dX6_auction_35 rfl (Nat.le_refl 49) (Nat.le_refl _) (Nat.le_refl _) ⟨rfl, _, _, _, _, _, _, rfl, hQ, hpi.2.1, rfl⟩
theorem bX6_auction_14_15 {l : Launch} {E : XE} : Snd l E mX6_auction 14 15 (xs [x_aload 0]) := Snd.cons (snd_aload_n (i := 0) dX6_auction_14 rfl) Snd.nil
theorem bX6_auction_18_31 {l : Launch} {E : XE} : Snd l E mX6_auction 18 31 (xs [x_id, x_istore 2, x_aload 0, x_get 7 6]) := Snd.cons (snd_goto (tgt := 26) dX6_auction_18 (by decide)) (Snd.cons (snd_istore_n (i := 2) dX6_auction_26 rfl (by decide)) (Snd.cons (snd_aload_n (i := 0) dX6_auction_27 rfl) (Snd.cons (snd_get (ci := 7) (k := 6) dX6_auction_28 rfl inX6 (by decide) tw_213) Snd.nil)))
set_option maxHeartbeats 4000000 in
set_option maxRecDepth 100000 in
theorem p_auction_rest {l : Launch} {E : XE} (T : TopN) (S P U : SaleN) (O : OutN) (B : BillN) (Q : SeaN) (C : ScrN) (R : PrtN) (tl rf : Nat → Nat)  (hS : SaleOK S) (hQ : Q.fd < 2147483648) (hC : ScrOK C) (hf : (prsS C).fa = -9) : MetE l E mX6_auction (11) 0 0 [.ref 0] (compW T S P U O B Q C R tl rf) (CP T (obS (prsS C) S) P (C.lt) (0) tl rf (some (.int (zI (obZ (prsS C) S))))) := by
  refine MetE.of (by decide +kernel) (Nat.le_of_ble_eq_true rfl) ?_
  have hca := hS.1
  have hpw := pow_ca hS
  have hac := ac_lt hS
  
  refine ev_eq (lv' := [(0, .ref 0)]) (st' := []) (w' := compW T S P U O B Q C R tl rf) rfl rfl rfl ?_
  refine ev_b bX6_auction_0_4 (lv' := [(0, .ref 0)]) (st' := [.ref 38]) (w2 := compW T S P U O B Q C R tl rf) rfl ?_
  refine ev_callVN (Yc := mX4_parse) [38, 39, 40, 41, 42, 43, 44] dX6_auction_4 tn_265 kX4_parse (m_X4_parse C hC) rfl (st := []) rfl rfl rfl (by decide) hw_comp__38 (by decide) (Nat.le_of_ble_eq_true rfl) (Nat.le_refl _) (Nat.le_refl _) (fun r w' h => by obtain ⟨-, rfl⟩ := h; exact Nat.le_of_ble_eq_true rfl) ?_
  rintro _ _ ⟨rfl, rfl⟩
  refine ev_eq (lv' := [(0, .ref 0)]) (st' := [.int (zI ((prsS C).fa))]) (w' := compW T S P U O B Q ((prsS C)) R tl rf) rfl rfl xp_comp__38 ?_
  have hpi := prs_i (C := C) hC.1
  have hpb : -9 ≤ (prsS C).fa ∧ (prsS C).fa ≤ 96 := by
    have h := hpi.2.2.1
    have h1 := hpi.1
    have h2 := hC.1
    obtain ⟨h3, h4⟩ := h
    dsimp only at h4
    omega
  refine ev_b bX6_auction_7_11 (lv' := [(1, .int (zI ((prsS C).fa))), (0, .ref 0)]) (st' := [.int (-9), .int (zI ((prsS C).fa))]) (w2 := compW T S P U O B Q ((prsS C)) R tl rf) rfl ?_
  refine ev_top (y := zI (-9)) (by decide) ?_
  refine ev_icmp_ne_z (tgt := 21) (by constructor <;> omega) (by constructor <;> omega) dX6_auction_11 (by decide) (fun h11 => (by exfalso; omega)) (fun h11 => ?_)
  refine ev_b bX6_auction_14_15 (lv' := [(1, .int (zI ((prsS C).fa))), (0, .ref 0)]) (st' := [.ref 0]) (w2 := compW T S P U O B Q ((prsS C)) R tl rf) rfl ?_
  refine ev_callV (Yc := mX6_obeyScript) (rng 0 49) dX6_auction_15 tw_368 kX6_obeyScript (m_X6_obeyScript T S P U O B Q (prsS C) R tl rf hS hpi.2.2.2) rfl (st := []) rfl rfl rfl (by decide) comp_hw (by decide) (Nat.le_of_ble_eq_true rfl) (Nat.le_refl _) (Nat.le_refl _) (fun r w' h => by obtain ⟨-, rfl⟩ := h; exact Nat.le_of_ble_eq_true rfl) ?_
  rintro _ _ ⟨rfl, rfl⟩
  refine ev_eq (lv' := [(1, .int (zI ((prsS C).fa))), (0, .ref 0)]) (st' := [.int (zI (obZ (prsS C) S))]) (w' := compW T ((obS (prsS C) S)) P ((oGo (prsS C) (prsS C).sn 0 S).2) O B Q ((prsS C)) R tl rf) rfl rfl comp_xp ?_
  refine ev_b bX6_auction_18_31 (lv' := [(2, .int (zI (obZ (prsS C) S))), (1, .int (zI ((prsS C).fa))), (0, .ref 0)]) (st' := [.ref 38]) (w2 := compW T ((obS (prsS C) S)) P ((oGo (prsS C) (prsS C).sn 0 S).2) O B Q ((prsS C)) R tl rf) rfl ?_
  refine ev_callVN (Yc := mX4_forget) [38, 39, 40, 41, 42, 43, 44] dX6_auction_31 tn_428 kX4_forget (m_X4_forget ((prsS C))) rfl (st := []) rfl rfl rfl (by decide) hw_comp__38 (by decide) (Nat.le_of_ble_eq_true rfl) (Nat.le_refl _) (Nat.le_refl _) (fun r w' h => by obtain ⟨-, rfl⟩ := h; exact Nat.le_of_ble_eq_true rfl) ?_
  rintro _ _ ⟨rfl, rfl⟩
  refine ev_eq (lv' := [(2, .int (zI (obZ (prsS C) S))), (1, .int (zI ((prsS C).fa))), (0, .ref 0)]) (st' := []) (w' := compW T ((obS (prsS C) S)) P ((oGo (prsS C) (prsS C).sn 0 S).2) O B Q ((ScrN.lt ((prsS C)), ScrN.st ((prsS C)), ScrN.wd ((prsS C)), ScrN.f1 ((prsS C)), ScrN.f2 ((prsS C)), ScrN.f3 ((prsS C)), 0, ScrN.pl ((prsS C)), ScrN.fa ((prsS C)), ScrN.sn ((prsS C))) : ScrN) R tl rf) rfl rfl xp_comp__38 ?_
  refine ev_b bX6_auction_34_35 (lv' := [(2, .int (zI (obZ (prsS C) S))), (1, .int (zI ((prsS C).fa))), (0, .ref 0)]) (st' := [.int (zI (obZ (prsS C) S))]) (w2 := compW T ((obS (prsS C) S)) P ((oGo (prsS C) (prsS C).sn 0 S).2) O B Q ((ScrN.lt ((prsS C)), ScrN.st ((prsS C)), ScrN.wd ((prsS C)), ScrN.f1 ((prsS C)), ScrN.f2 ((prsS C)), ScrN.f3 ((prsS C)), 0, ScrN.pl ((prsS C)), ScrN.fa ((prsS C)), ScrN.sn ((prsS C))) : ScrN) R tl rf) rfl ?_
  exact ev_iret dX6_auction_35 rfl (Nat.le_refl 49) (Nat.le_refl _) (Nat.le_refl _) ⟨rfl, _, _, _, _, _, _, rfl, hQ, hpi.2.1, rfl⟩
