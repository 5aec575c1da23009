theorem bX7_judge_0_3 {l : Launch} {E : XE} : Snd l E mX7_judge 0 3 (xs [x_iload 1, x_push (.int (nI 0)), x_push (.int (nI 2))]) := Snd.cons (snd_iload_n (i := 1) dX7_judge_0 rfl) (Snd.cons (snd_iconst (v := nI 0) dX7_judge_1 (by decide)) (Snd.cons (snd_iconst (v := nI 2) dX7_judge_2 (by decide)) Snd.nil))
theorem bX7_judge_9_12 {l : Launch} {E : XE} : Snd l E mX7_judge 9 12 (xs [x_aload 0, x_push (.int (-2))]) := Snd.cons (snd_aload_n (i := 0) dX7_judge_9 rfl) (Snd.cons (snd_bipush (v := -2) dX7_judge_10 (by decide)) Snd.nil)
set_option maxHeartbeats 4000000 in
set_option maxRecDepth 100000 in
theorem q_judge_2 {l : Launch} {E : XE} (S : SaleN) (X : ModN) (K : Option (Nat → Nat)) (z1 : Int) (hS : SaleOK S) (hM : MOK S X) (rz1 : -2147483648 ≤ z1 ∧ z1 < 2147483648) (h : ¬ (0 ≤ z1 ∧ z1 < 3)) : MetE l E mX7_judge (1) 0 0 [.ref 0, .int (zI (z1))] (modW 0 S X K) (MP S K (X.lt) (X.ty) (X.rr) (X.rn) ((up X.rf 2 (X.rf 2 + 1))) (some (.int (-2)))) := by
  refine MetE.of (by decide +kernel) (Nat.le_of_ble_eq_true rfl) ?_
  have hca := hS.1
  have hpw := pow_ca hS
  have hac := ac_lt hS
  have hshl := shl_le hS
  
  refine ev_eq (lv' := [(0, .ref 0), (1, .int (zI (z1)))]) (st' := []) (w' := modW 0 S X K) rfl rfl rfl ?_
  refine ev_b bX7_judge_0_3 (lv' := [(0, .ref 0), (1, .int (zI (z1)))]) (st' := [.int (nI (2)), .int (nI (0)), .int (zI (z1))]) (w2 := modW 0 S X K) rfl ?_
  refine ev_callS (Yc := mX7_isIn) [] dX7_judge_3 tw_1036 kX7_isIn (m_X7_isIn_z z1 0 2 rz1 (by decide) (by decide)) rfl (st := []) rfl (by decide) rfl (by decide) (Nat.le_of_ble_eq_true rfl) (Nat.le_refl _) (Nat.le_refl _) (fun r w' h => by obtain ⟨-, rfl⟩ := h; exact Nat.le_of_ble_eq_true rfl) ?_
  rintro _ _ ⟨rfl, rfl⟩
  refine ev_eq (lv' := [(0, .ref 0), (1, .int (zI (z1)))]) (st' := [.int (nI (b01 (((0 : Nat) : Int) ≤ z1 ∧ z1 ≤ ((2 : Nat) : Int))))]) (w' := modW 0 S X K) rfl rfl rfl ?_
  refine ev_ifne_b (tgt := 16) dX7_judge_6 (by decide) (fun h6 => (by exfalso; omega)) (fun h6 => ?_)
  refine ev_b bX7_judge_9_12 (lv' := [(0, .ref 0), (1, .int (zI (z1)))]) (st' := [.int (-2), .ref 0]) (w2 := modW 0 S X K) rfl ?_
  refine ev_callM (Yc := mX7_refuses) (st := []) dX7_judge_12 tw_1012 kX7_refuses (m_X7_refuses_2 S X K) rfl rfl rfl rfl (by decide) (Nat.le_of_ble_eq_true rfl) (Nat.le_refl _) (Nat.le_refl _) (fun r w' h => by obtain ⟨-, rfl⟩ := h; exact mod_eq) ?_
  rintro _ _ ⟨rfl, rfl⟩
  refine ev_eq (lv' := [(0, .ref 0), (1, .int (zI (z1)))]) (st' := [.int (-2)]) (w' := modW 0 S (((up X.rf 2 (X.rf 2 + 1)), X.wo, X.ta, X.ow, X.sl, X.sh, X.lt, X.ty, X.pl, X.nu, X.od, X.tt, X.oo, X.on, X.wn, X.pd, X.li, X.rr, X.rn, X.dr) : ModN) K) rfl rfl rfl ?_
  exact ev_iret dX7_judge_15 rfl mod_le (Nat.le_refl _) (Nat.le_refl _) ⟨rfl, _, rfl, hM, rfl, rfl, rfl, rfl, rfl⟩
theorem bX7_judge_16_18 {l : Launch} {E : XE} : Snd l E mX7_judge 16 18 (xs [x_aload 0, x_iload 1]) := Snd.cons (snd_aload_n (i := 0) dX7_judge_16 rfl) (Snd.cons (snd_iload_n (i := 1) dX7_judge_17 rfl) Snd.nil)
theorem bX7_judge_21_22 {l : Launch} {E : XE} : Snd l E mX7_judge 21 22 (xs [x_aload 0]) := Snd.cons (snd_aload_n (i := 0) dX7_judge_21 rfl) Snd.nil
theorem bX7_judge_25_32 {l : Launch} {E : XE} : Snd l E mX7_judge 25 32 (xs [x_istore 2, x_aload 0, x_push (.int (nI 0)), x_puti 8 28, x_iload 2]) := Snd.cons (snd_istore_n (i := 2) dX7_judge_25 rfl (by decide)) (Snd.cons (snd_aload_n (i := 0) dX7_judge_26 rfl) (Snd.cons (snd_iconst (v := nI 0) dX7_judge_27 (by decide)) (Snd.cons (snd_puti (ci := 8) (k := 28) dX7_judge_28 rfl inX7 tyX7_ok nmX7 (by decide) tw_942 rfl rfl) (Snd.cons (snd_iload_n (i := 2) dX7_judge_31 rfl) Snd.nil))))
set_option maxHeartbeats 4000000 in
set_option maxRecDepth 100000 in
theorem q_judge_w0 {l : Launch} {E : XE} (S : SaleN) (X : ModN) (K : Option (Nat → Nat)) (n : Nat) (hS : SaleOK S) (hM : MOK S X) (hn : LiftsTo S n) (hrn : X.rn ≤ 5) (hrr : ∀ k, k < X.rn → X.rr k ≤ 99) : MetE l E mX7_judge (8) 0 0 [.ref 0, .int (nI (0))] (modW 0 S X K) (MP S K (X.lt) (X.ty) (X.rr) (0) (X.rf) (some (.int (zI (fwZ X.rr (wonZ S) X.rn 0))))) := by
  refine MetE.of (by decide +kernel) (Nat.le_of_ble_eq_true rfl) ?_
  have hca := hS.1
  have hpw := pow_ca hS
  have hac := ac_lt hS
  have hshl := shl_le hS
  
  refine ev_eq (lv' := [(0, .ref 0), (1, .int (nI (0)))]) (st' := []) (w' := modW 0 S X K) rfl rfl rfl ?_
  refine ev_b bX7_judge_0_3 (lv' := [(0, .ref 0), (1, .int (nI (0)))]) (st' := [.int (nI (2)), .int (nI (0)), .int (nI (0))]) (w2 := modW 0 S X K) rfl ?_
  refine ev_callS (Yc := mX7_isIn) [] dX7_judge_3 tw_1036 kX7_isIn (m_X7_isIn_n 0 0 2 (by decide) (by decide) (by decide)) rfl (st := []) rfl (by decide) rfl (by decide) (Nat.le_of_ble_eq_true rfl) (Nat.le_refl _) (Nat.le_refl _) (fun r w' h => by obtain ⟨-, rfl⟩ := h; exact Nat.le_of_ble_eq_true rfl) ?_
  rintro _ _ ⟨rfl, rfl⟩
  refine ev_eq (lv' := [(0, .ref 0), (1, .int (nI (0)))]) (st' := [.int (nI (b01 (0 ≤ 0 ∧ 0 ≤ 2)))]) (w' := modW 0 S X K) rfl rfl rfl ?_
  refine ev_ifne_b (tgt := 16) dX7_judge_6 (by decide) (fun h6 => ?_) (fun h6 => (by exfalso; omega))
  refine ev_b bX7_judge_16_18 (lv' := [(0, .ref 0), (1, .int (nI (0)))]) (st' := [.int (nI (0)), .ref 0]) (w2 := modW 0 S X K) rfl ?_
  refine ev_callM (Yc := mX7_finds) (st := []) dX7_judge_18 tw_1216 kX7_finds (m_X7_finds_0 S X K hS hM) rfl rfl rfl rfl (by decide) (Nat.le_of_ble_eq_true rfl) (Nat.le_refl _) (Nat.le_refl _) (fun r w' h => by obtain ⟨-, wo, ta, rfl, -⟩ := h; exact mod_eq) ?_
  rintro _ _ ⟨rfl, wo, ta, rfl, hT⟩
  refine ev_eq (lv' := [(0, .ref 0), (1, .int (nI (0)))]) (st' := []) (w' := modW 0 S ((X.rf, wo, ta, (owF S), 0, X.sh, X.lt, X.ty, X.pl, X.nu, X.od, X.tt, X.oo, X.on, (wonZ S), (wonZ S), X.li, X.rr, X.rn, X.dr) : ModN) K) rfl rfl rfl ?_
  refine ev_b bX7_judge_21_22 (lv' := [(0, .ref 0), (1, .int (nI (0)))]) (st' := [.ref 0]) (w2 := modW 0 S ((X.rf, wo, ta, (owF S), 0, X.sh, X.lt, X.ty, X.pl, X.nu, X.od, X.tt, X.oo, X.on, (wonZ S), (wonZ S), X.li, X.rr, X.rn, X.dr) : ModN) K) rfl ?_
  refine ev_callM (Yc := mX7_otherwise) (st := []) dX7_judge_22 tw_1454 kX7_otherwise (m_X7_otherwise S ((X.rf, wo, ta, (owF S), 0, X.sh, X.lt, X.ty, X.pl, X.nu, X.od, X.tt, X.oo, X.on, (wonZ S), (wonZ S), X.li, X.rr, X.rn, X.dr) : ModN) K (wonZ_b hS) hrn hrr) rfl rfl rfl rfl (by decide) (Nat.le_of_ble_eq_true rfl) (Nat.le_refl _) (Nat.le_refl _) (fun r w' h => by obtain ⟨-, rfl⟩ := h; exact mod_eq) ?_
  rintro _ _ ⟨rfl, rfl⟩
  refine ev_eq (lv' := [(0, .ref 0), (1, .int (nI (0)))]) (st' := [.int (zI (fwZ X.rr (wonZ S) X.rn 0))]) (w' := modW 0 S ((X.rf, wo, ta, (owF S), 0, X.sh, X.lt, X.ty, X.pl, X.nu, X.od, X.tt, X.oo, X.on, (wonZ S), (wonZ S), X.li, X.rr, X.rn, X.dr) : ModN) K) rfl rfl rfl ?_
  refine ev_b bX7_judge_25_32 (lv' := [(2, .int (zI (fwZ X.rr (wonZ S) X.rn 0))), (0, .ref 0), (1, .int (nI (0)))]) (st' := [.int (zI (fwZ X.rr (wonZ S) X.rn 0))]) (w2 := modW 0 S ((X.rf, wo, ta, (owF S), 0, X.sh, X.lt, X.ty, X.pl, X.nu, X.od, X.tt, X.oo, X.on, (wonZ S), (wonZ S), X.li, X.rr, 0, X.dr) : ModN) K) rfl ?_
  exact ev_iret dX7_judge_32 rfl mod_le (Nat.le_refl _) (Nat.le_refl _) ⟨rfl, _, rfl, mok_fresh hM.1 rfl hT, rfl, rfl, rfl, rfl, rfl⟩
set_option maxHeartbeats 4000000 in
set_option maxRecDepth 100000 in
theorem q_judge_w1 {l : Launch} {E : XE} (S : SaleN) (X : ModN) (K : Option (Nat → Nat)) (n : Nat) (hS : SaleOK S) (hM : MOK S X) (hn : LiftsTo S n) (hrn : X.rn ≤ 5) (hrr : ∀ k, k < X.rn → X.rr k ≤ 99) : MetE l E mX7_judge (8) 0 0 [.ref 0, .int (nI (1))] (modW 0 S X K) (MP S K (X.lt) (X.ty) (X.rr) (0) (X.rf) (some (.int (zI (fwZ X.rr (paidZ S) X.rn 0))))) := by
  refine MetE.of (by decide +kernel) (Nat.le_of_ble_eq_true rfl) ?_
  have hca := hS.1
  have hpw := pow_ca hS
  have hac := ac_lt hS
  have hshl := shl_le hS
  
  refine ev_eq (lv' := [(0, .ref 0), (1, .int (nI (1)))]) (st' := []) (w' := modW 0 S X K) rfl rfl rfl ?_
  refine ev_b bX7_judge_0_3 (lv' := [(0, .ref 0), (1, .int (nI (1)))]) (st' := [.int (nI (2)), .int (nI (0)), .int (nI (1))]) (w2 := modW 0 S X K) rfl ?_
  refine ev_callS (Yc := mX7_isIn) [] dX7_judge_3 tw_1036 kX7_isIn (m_X7_isIn_n 1 0 2 (by decide) (by decide) (by decide)) rfl (st := []) rfl (by decide) rfl (by decide) (Nat.le_of_ble_eq_true rfl) (Nat.le_refl _) (Nat.le_refl _) (fun r w' h => by obtain ⟨-, rfl⟩ := h; exact Nat.le_of_ble_eq_true rfl) ?_
  rintro _ _ ⟨rfl, rfl⟩
  refine ev_eq (lv' := [(0, .ref 0), (1, .int (nI (1)))]) (st' := [.int (nI (b01 (0 ≤ 1 ∧ 1 ≤ 2)))]) (w' := modW 0 S X K) rfl rfl rfl ?_
  refine ev_ifne_b (tgt := 16) dX7_judge_6 (by decide) (fun h6 => ?_) (fun h6 => (by exfalso; omega))
  refine ev_b bX7_judge_16_18 (lv' := [(0, .ref 0), (1, .int (nI (1)))]) (st' := [.int (nI (1)), .ref 0]) (w2 := modW 0 S X K) rfl ?_
  refine ev_callM (Yc := mX7_finds) (st := []) dX7_judge_18 tw_1216 kX7_finds (m_X7_finds_1 S X K hS hM) rfl rfl rfl rfl (by decide) (Nat.le_of_ble_eq_true rfl) (Nat.le_refl _) (Nat.le_refl _) (fun r w' h => by obtain ⟨-, wo, ta, rfl, -⟩ := h; exact mod_eq) ?_
  rintro _ _ ⟨rfl, wo, ta, rfl, hT⟩
  refine ev_eq (lv' := [(0, .ref 0), (1, .int (nI (1)))]) (st' := []) (w' := modW 0 S ((X.rf, wo, ta, (owF S), 0, X.sh, X.lt, X.ty, X.pl, X.nu, X.od, X.tt, X.oo, X.on, (wonZ S), (paidZ S), X.li, X.rr, X.rn, X.dr) : ModN) K) rfl rfl rfl ?_
  refine ev_b bX7_judge_21_22 (lv' := [(0, .ref 0), (1, .int (nI (1)))]) (st' := [.ref 0]) (w2 := modW 0 S ((X.rf, wo, ta, (owF S), 0, X.sh, X.lt, X.ty, X.pl, X.nu, X.od, X.tt, X.oo, X.on, (wonZ S), (paidZ S), X.li, X.rr, X.rn, X.dr) : ModN) K) rfl ?_
  refine ev_callM (Yc := mX7_otherwise) (st := []) dX7_judge_22 tw_1454 kX7_otherwise (m_X7_otherwise S ((X.rf, wo, ta, (owF S), 0, X.sh, X.lt, X.ty, X.pl, X.nu, X.od, X.tt, X.oo, X.on, (wonZ S), (paidZ S), X.li, X.rr, X.rn, X.dr) : ModN) K (paid_b hS) hrn hrr) rfl rfl rfl rfl (by decide) (Nat.le_of_ble_eq_true rfl) (Nat.le_refl _) (Nat.le_refl _) (fun r w' h => by obtain ⟨-, rfl⟩ := h; exact mod_eq) ?_
  rintro _ _ ⟨rfl, rfl⟩
  refine ev_eq (lv' := [(0, .ref 0), (1, .int (nI (1)))]) (st' := [.int (zI (fwZ X.rr (paidZ S) X.rn 0))]) (w' := modW 0 S ((X.rf, wo, ta, (owF S), 0, X.sh, X.lt, X.ty, X.pl, X.nu, X.od, X.tt, X.oo, X.on, (wonZ S), (paidZ S), X.li, X.rr, X.rn, X.dr) : ModN) K) rfl rfl rfl ?_
  refine ev_b bX7_judge_25_32 (lv' := [(2, .int (zI (fwZ X.rr (paidZ S) X.rn 0))), (0, .ref 0), (1, .int (nI (1)))]) (st' := [.int (zI (fwZ X.rr (paidZ S) X.rn 0))]) (w2 := modW 0 S ((X.rf, wo, ta, (owF S), 0, X.sh, X.lt, X.ty, X.pl, X.nu, X.od, X.tt, X.oo, X.on, (wonZ S), (paidZ S), X.li, X.rr, 0, X.dr) : ModN) K) rfl ?_
  exact ev_iret dX7_judge_32 rfl mod_le (Nat.le_refl _) (Nat.le_refl _) ⟨rfl, _, rfl, mok_fresh hM.1 rfl hT, rfl, rfl, rfl, rfl, rfl⟩
set_option maxHeartbeats 4000000 in
set_option maxRecDepth 100000 in
theorem q_judge_w2 {l : Launch} {E : XE} (S : SaleN) (X : ModN) (K : Option (Nat → Nat)) (n : Nat) (hS : SaleOK S) (hM : MOK S X) (hn : LiftsTo S n) (hrn : X.rn ≤ 5) (hrr : ∀ k, k < X.rn → X.rr k ≤ 99) : MetE l E mX7_judge (9) 0 0 [.ref 0, .int (nI (2))] (modW 0 S X K) (MP S K (X.lt) (X.ty) (X.rr) (0) (X.rf) (some (.int (zI (fwZ X.rr (itS S n) X.rn 0))))) := by
  refine MetE.of (by decide +kernel) (Nat.le_of_ble_eq_true rfl) ?_
  have hca := hS.1
  have hpw := pow_ca hS
  have hac := ac_lt hS
  have hshl := shl_le hS
  
  refine ev_eq (lv' := [(0, .ref 0), (1, .int (nI (2)))]) (st' := []) (w' := modW 0 S X K) rfl rfl rfl ?_
  refine ev_b bX7_judge_0_3 (lv' := [(0, .ref 0), (1, .int (nI (2)))]) (st' := [.int (nI (2)), .int (nI (0)), .int (nI (2))]) (w2 := modW 0 S X K) rfl ?_
  refine ev_callS (Yc := mX7_isIn) [] dX7_judge_3 tw_1036 kX7_isIn (m_X7_isIn_n 2 0 2 (by decide) (by decide) (by decide)) rfl (st := []) rfl (by decide) rfl (by decide) (Nat.le_of_ble_eq_true rfl) (Nat.le_refl _) (Nat.le_refl _) (fun r w' h => by obtain ⟨-, rfl⟩ := h; exact Nat.le_of_ble_eq_true rfl) ?_
  rintro _ _ ⟨rfl, rfl⟩
  refine ev_eq (lv' := [(0, .ref 0), (1, .int (nI (2)))]) (st' := [.int (nI (b01 (0 ≤ 2 ∧ 2 ≤ 2)))]) (w' := modW 0 S X K) rfl rfl rfl ?_
  refine ev_ifne_b (tgt := 16) dX7_judge_6 (by decide) (fun h6 => ?_) (fun h6 => (by exfalso; omega))
  refine ev_b bX7_judge_16_18 (lv' := [(0, .ref 0), (1, .int (nI (2)))]) (st' := [.int (nI (2)), .ref 0]) (w2 := modW 0 S X K) rfl ?_
  refine ev_callM (Yc := mX7_finds) (st := []) dX7_judge_18 tw_1216 kX7_finds (m_X7_finds_2 S X K n hS hM hn) rfl rfl rfl rfl (by decide) (Nat.le_of_ble_eq_true rfl) (Nat.le_refl _) (Nat.le_refl _) (fun r w' h => by obtain ⟨-, wo, ta, rfl, -⟩ := h; exact mod_eq) ?_
  rintro _ _ ⟨rfl, wo, ta, rfl, hT⟩
  refine ev_eq (lv' := [(0, .ref 0), (1, .int (nI (2)))]) (st' := []) (w' := modW 0 S ((X.rf, wo, ta, (owF S), 0, X.sh, X.lt, X.ty, X.pl, X.nu, X.od, X.tt, X.oo, X.on, (wonZ S), (itS S n), n, X.rr, X.rn, X.dr) : ModN) K) rfl rfl rfl ?_
  refine ev_b bX7_judge_21_22 (lv' := [(0, .ref 0), (1, .int (nI (2)))]) (st' := [.ref 0]) (w2 := modW 0 S ((X.rf, wo, ta, (owF S), 0, X.sh, X.lt, X.ty, X.pl, X.nu, X.od, X.tt, X.oo, X.on, (wonZ S), (itS S n), n, X.rr, X.rn, X.dr) : ModN) K) rfl ?_
  refine ev_callM (Yc := mX7_otherwise) (st := []) dX7_judge_22 tw_1454 kX7_otherwise (m_X7_otherwise S ((X.rf, wo, ta, (owF S), 0, X.sh, X.lt, X.ty, X.pl, X.nu, X.od, X.tt, X.oo, X.on, (wonZ S), (itS S n), n, X.rr, X.rn, X.dr) : ModN) K (it_b hS hn) hrn hrr) rfl rfl rfl rfl (by decide) (Nat.le_of_ble_eq_true rfl) (Nat.le_refl _) (Nat.le_refl _) (fun r w' h => by obtain ⟨-, rfl⟩ := h; exact mod_eq) ?_
  rintro _ _ ⟨rfl, rfl⟩
  refine ev_eq (lv' := [(0, .ref 0), (1, .int (nI (2)))]) (st' := [.int (zI (fwZ X.rr (itS S n) X.rn 0))]) (w' := modW 0 S ((X.rf, wo, ta, (owF S), 0, X.sh, X.lt, X.ty, X.pl, X.nu, X.od, X.tt, X.oo, X.on, (wonZ S), (itS S n), n, X.rr, X.rn, X.dr) : ModN) K) rfl rfl rfl ?_
  refine ev_b bX7_judge_25_32 (lv' := [(2, .int (zI (fwZ X.rr (itS S n) X.rn 0))), (0, .ref 0), (1, .int (nI (2)))]) (st' := [.int (zI (fwZ X.rr (itS S n) X.rn 0))]) (w2 := modW 0 S ((X.rf, wo, ta, (owF S), 0, X.sh, X.lt, X.ty, X.pl, X.nu, X.od, X.tt, X.oo, X.on, (wonZ S), (itS S n), n, X.rr, 0, X.dr) : ModN) K) rfl ?_
  exact ev_iret dX7_judge_32 rfl mod_le (Nat.le_refl _) (Nat.le_refl _) ⟨rfl, _, rfl, mok_fresh hM.1 rfl hT, rfl, rfl, rfl, rfl, rfl⟩
