theorem bX7_lifts_0_1 {l : Launch} {E : XE} : Snd l E mX7_lifts 0 1 (xs [x_aload 0]) := Snd.cons (snd_aload_n (i := 0) dX7_lifts_0 rfl) Snd.nil
theorem bX7_lifts_4_8 {l : Launch} {E : XE} : Snd l E mX7_lifts 4 8 (xs [x_aload 0, x_get 8 26]) := Snd.cons (snd_aload_n (i := 0) dX7_lifts_4 rfl) (Snd.cons (snd_get (ci := 8) (k := 26) dX7_lifts_5 rfl inX7 (by decide) tw_940) Snd.nil)
set_option maxHeartbeats 4000000 in
set_option maxRecDepth 100000 in
theorem q_lifts_ok {l : Launch} {E : XE} (S : SaleN) (X : ModN) (K : Option (Nat → Nat)) (n : Nat) (hS : SaleOK S) (hM : MOK S X) (hn : LiftsTo S n) : MetE l E mX7_lifts (8) 0 0 [.ref 0] (modW 0 S X K) (MP S K (X.lt) (X.ty) (X.rr) (X.rn) (X.rf) (some (.int (nI (n))))) := by
  refine MetE.of (by decide +kernel) (Nat.le_of_ble_eq_true rfl) ?_
  have hca := hS.1
  have hpw := pow_ca hS
  have hac := ac_lt hS
  have hshl := shl_le hS
  
  refine ev_eq (lv' := [(0, .ref 0)]) (st' := []) (w' := modW 0 S X K) rfl rfl rfl ?_
  refine ev_b bX7_lifts_0_1 (lv' := [(0, .ref 0)]) (st' := [.ref 0]) (w2 := modW 0 S X K) rfl ?_
  refine ev_callM (Yc := mX7_findLifted) (st := []) dX7_lifts_1 tw_1220 kX7_findLifted (m_X7_findLifted S X K n hS hM hn) rfl rfl rfl rfl (by decide) (Nat.le_of_ble_eq_true rfl) (Nat.le_refl _) (Nat.le_refl _) (fun r w' h => by obtain ⟨-, wo, ta, rfl, -⟩ := h; exact mod_eq) ?_
  rintro _ _ ⟨rfl, wo, ta, rfl, hT⟩
  refine ev_eq (lv' := [(0, .ref 0)]) (st' := []) (w' := modW 0 S ((X.rf, wo, ta, (owF S), 0, X.sh, X.lt, X.ty, X.pl, X.nu, X.od, X.tt, X.oo, X.on, (wonZ S), (itS S n), n, X.rr, X.rn, X.dr) : ModN) K) rfl rfl rfl ?_
  refine ev_b bX7_lifts_4_8 (lv' := [(0, .ref 0)]) (st' := [.int (nI (n))]) (w2 := modW 0 S ((X.rf, wo, ta, (owF S), 0, X.sh, X.lt, X.ty, X.pl, X.nu, X.od, X.tt, X.oo, X.on, (wonZ S), (itS S n), n, X.rr, X.rn, X.dr) : ModN) K) rfl ?_
  exact ev_iret dX7_lifts_8 rfl mod_le (Nat.le_refl _) (Nat.le_refl _) ⟨rfl, _, rfl, mok_fresh hM.1 rfl hT, rfl, rfl, rfl, rfl, rfl⟩
theorem bX7_pays_0_3 {l : Launch} {E : XE} : Snd l E mX7_pays 0 3 (xs [x_iload 1, x_push (.int (nI 0)), x_push (.int (nI 4))]) := Snd.cons (snd_iload_n (i := 1) dX7_pays_0 rfl) (Snd.cons (snd_iconst (v := nI 0) dX7_pays_1 (by decide)) (Snd.cons (snd_iconst (v := nI 4) dX7_pays_2 (by decide)) Snd.nil))
theorem bX7_pays_9_11 {l : Launch} {E : XE} : Snd l E mX7_pays 9 11 (xs [x_aload 0, x_push (.int (-1))]) := Snd.cons (snd_aload_n (i := 0) dX7_pays_9 rfl) (Snd.cons (snd_iconst (v := -1) dX7_pays_10 (by decide)) Snd.nil)
set_option maxHeartbeats 4000000 in
set_option maxRecDepth 100000 in
theorem q_pays_1 {l : Launch} {E : XE} (S : SaleN) (X : ModN) (K : Option (Nat → Nat)) (z1 z2 : Int) (hS : SaleOK S) (hM : MOK S X) (rz1 : -2147483648 ≤ z1 ∧ z1 < 2147483648) (rz2 : -2147483648 ≤ z2 ∧ z2 < 2147483648) (h : ¬ (0 ≤ z1 ∧ z1 < 5)) : MetE l E mX7_pays (1) 0 0 [.ref 0, .int (zI (z1)), .int (zI (z2))] (modW 0 S X K) (MP S K (X.lt) (X.ty) (X.rr) (X.rn) ((up X.rf 1 (X.rf 1 + 1))) (some (.int (-1)))) := by
  refine MetE.of (by decide +kernel) (Nat.le_of_ble_eq_true rfl) ?_
  have hca := hS.1
  have hpw := pow_ca hS
  have hac := ac_lt hS
  have hshl := shl_le hS
  
  refine ev_eq (lv' := [(0, .ref 0), (1, .int (zI (z1))), (2, .int (zI (z2)))]) (st' := []) (w' := modW 0 S X K) rfl rfl rfl ?_
  refine ev_b bX7_pays_0_3 (lv' := [(0, .ref 0), (1, .int (zI (z1))), (2, .int (zI (z2)))]) (st' := [.int (nI (4)), .int (nI (0)), .int (zI (z1))]) (w2 := modW 0 S X K) rfl ?_
  refine ev_callS (Yc := mX7_isIn) [] dX7_pays_3 tw_1036 kX7_isIn (m_X7_isIn_z z1 0 4 rz1 (by decide) (by decide)) rfl (st := []) rfl (by decide) rfl (by decide) (Nat.le_of_ble_eq_true rfl) (Nat.le_refl _) (Nat.le_refl _) (fun r w' h => by obtain ⟨-, rfl⟩ := h; exact Nat.le_of_ble_eq_true rfl) ?_
  rintro _ _ ⟨rfl, rfl⟩
  refine ev_eq (lv' := [(0, .ref 0), (1, .int (zI (z1))), (2, .int (zI (z2)))]) (st' := [.int (nI (b01 (((0 : Nat) : Int) ≤ z1 ∧ z1 ≤ ((4 : Nat) : Int))))]) (w' := modW 0 S X K) rfl rfl rfl ?_
  refine ev_ifne_b (tgt := 15) dX7_pays_6 (by decide) (fun h6 => (by exfalso; omega)) (fun h6 => ?_)
  refine ev_b bX7_pays_9_11 (lv' := [(0, .ref 0), (1, .int (zI (z1))), (2, .int (zI (z2)))]) (st' := [.int (-1), .ref 0]) (w2 := modW 0 S X K) rfl ?_
  refine ev_callM (Yc := mX7_refuses) (st := []) dX7_pays_11 tw_1012 kX7_refuses (m_X7_refuses_1 S X K) rfl rfl rfl rfl (by decide) (Nat.le_of_ble_eq_true rfl) (Nat.le_refl _) (Nat.le_refl _) (fun r w' h => by obtain ⟨-, rfl⟩ := h; exact mod_eq) ?_
  rintro _ _ ⟨rfl, rfl⟩
  refine ev_eq (lv' := [(0, .ref 0), (1, .int (zI (z1))), (2, .int (zI (z2)))]) (st' := [.int (-1)]) (w' := modW 0 S (((up X.rf 1 (X.rf 1 + 1)), X.wo, X.ta, X.ow, X.sl, X.sh, X.lt, X.ty, X.pl, X.nu, X.od, X.tt, X.oo, X.on, X.wn, X.pd, X.li, X.rr, X.rn, X.dr) : ModN) K) rfl rfl rfl ?_
  exact ev_iret dX7_pays_14 rfl mod_le (Nat.le_refl _) (Nat.le_refl _) ⟨rfl, _, rfl, hM, rfl, rfl, rfl, rfl, rfl⟩
theorem bX7_pays_15_18 {l : Launch} {E : XE} : Snd l E mX7_pays 15 18 (xs [x_iload 2, x_push (.int (nI 0)), x_push (.int (nI 2))]) := Snd.cons (snd_iload_n (i := 2) dX7_pays_15 rfl) (Snd.cons (snd_iconst (v := nI 0) dX7_pays_16 (by decide)) (Snd.cons (snd_iconst (v := nI 2) dX7_pays_17 (by decide)) Snd.nil))
theorem bX7_pays_24_27 {l : Launch} {E : XE} : Snd l E mX7_pays 24 27 (xs [x_aload 0, x_push (.int (-2))]) := Snd.cons (snd_aload_n (i := 0) dX7_pays_24 rfl) (Snd.cons (snd_bipush (v := -2) dX7_pays_25 (by decide)) Snd.nil)
set_option maxHeartbeats 4000000 in
set_option maxRecDepth 100000 in
theorem q_pays_2 {l : Launch} {E : XE} (S : SaleN) (X : ModN) (K : Option (Nat → Nat)) (b : Nat) (z2 : Int) (hS : SaleOK S) (hM : MOK S X) (rz2 : -2147483648 ≤ z2 ∧ z2 < 2147483648) (hb : b < 5) (h : ¬ (0 ≤ z2 ∧ z2 < 3)) : MetE l E mX7_pays (1) 0 0 [.ref 0, .int (nI (b)), .int (zI (z2))] (modW 0 S X K) (MP S K (X.lt) (X.ty) (X.rr) (X.rn) ((up X.rf 2 (X.rf 2 + 1))) (some (.int (-2)))) := by
  refine MetE.of (by decide +kernel) (Nat.le_of_ble_eq_true rfl) ?_
  have hca := hS.1
  have hpw := pow_ca hS
  have hac := ac_lt hS
  have hshl := shl_le hS
  
  refine ev_eq (lv' := [(0, .ref 0), (1, .int (nI (b))), (2, .int (zI (z2)))]) (st' := []) (w' := modW 0 S X K) rfl rfl rfl ?_
  refine ev_b bX7_pays_0_3 (lv' := [(0, .ref 0), (1, .int (nI (b))), (2, .int (zI (z2)))]) (st' := [.int (nI (4)), .int (nI (0)), .int (nI (b))]) (w2 := modW 0 S X K) rfl ?_
  refine ev_callS (Yc := mX7_isIn) [] dX7_pays_3 tw_1036 kX7_isIn (m_X7_isIn_n b 0 4 (by omega) (by decide) (by decide)) rfl (st := []) rfl (by decide) rfl (by decide) (Nat.le_of_ble_eq_true rfl) (Nat.le_refl _) (Nat.le_refl _) (fun r w' h => by obtain ⟨-, rfl⟩ := h; exact Nat.le_of_ble_eq_true rfl) ?_
  rintro _ _ ⟨rfl, rfl⟩
  refine ev_eq (lv' := [(0, .ref 0), (1, .int (nI (b))), (2, .int (zI (z2)))]) (st' := [.int (nI (b01 (0 ≤ b ∧ b ≤ 4)))]) (w' := modW 0 S X K) rfl rfl rfl ?_
  refine ev_ifne_b (tgt := 15) dX7_pays_6 (by decide) (fun h6 => ?_) (fun h6 => (by exfalso; omega))
  refine ev_b bX7_pays_15_18 (lv' := [(0, .ref 0), (1, .int (nI (b))), (2, .int (zI (z2)))]) (st' := [.int (nI (2)), .int (nI (0)), .int (zI (z2))]) (w2 := modW 0 S X K) rfl ?_
  refine ev_callS (Yc := mX7_isIn) [] dX7_pays_18 tw_1036 kX7_isIn (m_X7_isIn_z z2 0 2 rz2 (by decide) (by decide)) rfl (st := []) rfl (by decide) rfl (by decide) (Nat.le_of_ble_eq_true rfl) (Nat.le_refl _) (Nat.le_refl _) (fun r w' h => by obtain ⟨-, rfl⟩ := h; exact Nat.le_of_ble_eq_true rfl) ?_
  rintro _ _ ⟨rfl, rfl⟩
  refine ev_eq (lv' := [(0, .ref 0), (1, .int (nI (b))), (2, .int (zI (z2)))]) (st' := [.int (nI (b01 (((0 : Nat) : Int) ≤ z2 ∧ z2 ≤ ((2 : Nat) : Int))))]) (w' := modW 0 S X K) rfl rfl rfl ?_
  refine ev_ifne_b (tgt := 31) dX7_pays_21 (by decide) (fun h21 => (by exfalso; omega)) (fun h21 => ?_)
  refine ev_b bX7_pays_24_27 (lv' := [(0, .ref 0), (1, .int (nI (b))), (2, .int (zI (z2)))]) (st' := [.int (-2), .ref 0]) (w2 := modW 0 S X K) rfl ?_
  refine ev_callM (Yc := mX7_refuses) (st := []) dX7_pays_27 tw_1012 kX7_refuses (m_X7_refuses_2 S X K) rfl rfl rfl rfl (by decide) (Nat.le_of_ble_eq_true rfl) (Nat.le_refl _) (Nat.le_refl _) (fun r w' h => by obtain ⟨-, rfl⟩ := h; exact mod_eq) ?_
  rintro _ _ ⟨rfl, rfl⟩
  refine ev_eq (lv' := [(0, .ref 0), (1, .int (nI (b))), (2, .int (zI (z2)))]) (st' := [.int (-2)]) (w' := modW 0 S (((up X.rf 2 (X.rf 2 + 1)), X.wo, X.ta, X.ow, X.sl, X.sh, X.lt, X.ty, X.pl, X.nu, X.od, X.tt, X.oo, X.on, X.wn, X.pd, X.li, X.rr, X.rn, X.dr) : ModN) K) rfl rfl rfl ?_
  exact ev_iret dX7_pays_30 rfl mod_le (Nat.le_refl _) (Nat.le_refl _) ⟨rfl, _, rfl, hM, rfl, rfl, rfl, rfl, rfl⟩
theorem bX7_pays_31_33 {l : Launch} {E : XE} : Snd l E mX7_pays 31 33 (xs [x_aload 0, x_iload 2]) := Snd.cons (snd_aload_n (i := 0) dX7_pays_31 rfl) (Snd.cons (snd_iload_n (i := 2) dX7_pays_32 rfl) Snd.nil)
theorem bX7_pays_36_41 {l : Launch} {E : XE} : Snd l E mX7_pays 36 41 (xs [x_aload 0, x_get 8 25, x_iload 1]) := Snd.cons (snd_aload_n (i := 0) dX7_pays_36 rfl) (Snd.cons (snd_get (ci := 8) (k := 25) dX7_pays_37 rfl inX7 (by decide) tw_939) (Snd.cons (snd_iload_n (i := 1) dX7_pays_40 rfl) Snd.nil))
set_option maxHeartbeats 4000000 in
set_option maxRecDepth 100000 in
theorem q_pays_w0 {l : Launch} {E : XE} (S : SaleN) (X : ModN) (K : Option (Nat → Nat)) (n b : Nat) (hS : SaleOK S) (hM : MOK S X) (hn : LiftsTo S n) (hb : b < 5) : MetE l E mX7_pays (8) 0 0 [.ref 0, .int (nI (b)), .int (nI (0))] (modW 0 S X K) (MP S K (X.lt) (X.ty) (X.rr) (X.rn) (X.rf) (some (.int (zI ((wonZ S) b))))) := by
  refine MetE.of (by decide +kernel) (Nat.le_of_ble_eq_true rfl) ?_
  have hca := hS.1
  have hpw := pow_ca hS
  have hac := ac_lt hS
  have hshl := shl_le hS
  
  refine ev_eq (lv' := [(0, .ref 0), (1, .int (nI (b))), (2, .int (nI (0)))]) (st' := []) (w' := modW 0 S X K) rfl rfl rfl ?_
  refine ev_b bX7_pays_0_3 (lv' := [(0, .ref 0), (1, .int (nI (b))), (2, .int (nI (0)))]) (st' := [.int (nI (4)), .int (nI (0)), .int (nI (b))]) (w2 := modW 0 S X K) rfl ?_
  refine ev_callS (Yc := mX7_isIn) [] dX7_pays_3 tw_1036 kX7_isIn (m_X7_isIn_n b 0 4 (by omega) (by decide) (by decide)) rfl (st := []) rfl (by decide) rfl (by decide) (Nat.le_of_ble_eq_true rfl) (Nat.le_refl _) (Nat.le_refl _) (fun r w' h => by obtain ⟨-, rfl⟩ := h; exact Nat.le_of_ble_eq_true rfl) ?_
  rintro _ _ ⟨rfl, rfl⟩
  refine ev_eq (lv' := [(0, .ref 0), (1, .int (nI (b))), (2, .int (nI (0)))]) (st' := [.int (nI (b01 (0 ≤ b ∧ b ≤ 4)))]) (w' := modW 0 S X K) rfl rfl rfl ?_
  refine ev_ifne_b (tgt := 15) dX7_pays_6 (by decide) (fun h6 => ?_) (fun h6 => (by exfalso; omega))
  refine ev_b bX7_pays_15_18 (lv' := [(0, .ref 0), (1, .int (nI (b))), (2, .int (nI (0)))]) (st' := [.int (nI (2)), .int (nI (0)), .int (nI (0))]) (w2 := modW 0 S X K) rfl ?_
  refine ev_callS (Yc := mX7_isIn) [] dX7_pays_18 tw_1036 kX7_isIn (m_X7_isIn_n 0 0 2 (by decide) (by decide) (by decide)) rfl (st := []) rfl (by decide) rfl (by decide) (Nat.le_of_ble_eq_true rfl) (Nat.le_refl _) (Nat.le_refl _) (fun r w' h => by obtain ⟨-, rfl⟩ := h; exact Nat.le_of_ble_eq_true rfl) ?_
  rintro _ _ ⟨rfl, rfl⟩
  refine ev_eq (lv' := [(0, .ref 0), (1, .int (nI (b))), (2, .int (nI (0)))]) (st' := [.int (nI (b01 (0 ≤ 0 ∧ 0 ≤ 2)))]) (w' := modW 0 S X K) rfl rfl rfl ?_
  refine ev_ifne_b (tgt := 31) dX7_pays_21 (by decide) (fun h21 => ?_) (fun h21 => (by exfalso; omega))
  refine ev_b bX7_pays_31_33 (lv' := [(0, .ref 0), (1, .int (nI (b))), (2, .int (nI (0)))]) (st' := [.int (nI (0)), .ref 0]) (w2 := modW 0 S X K) rfl ?_
  refine ev_callM (Yc := mX7_finds) (st := []) dX7_pays_33 tw_1216 kX7_finds (m_X7_finds_0 S X K hS hM) rfl rfl rfl rfl (by decide) (Nat.le_of_ble_eq_true rfl) (Nat.le_refl _) (Nat.le_refl _) (fun r w' h => by obtain ⟨-, wo, ta, rfl, -⟩ := h; exact mod_eq) ?_
  rintro _ _ ⟨rfl, wo, ta, rfl, hT⟩
  refine ev_eq (lv' := [(0, .ref 0), (1, .int (nI (b))), (2, .int (nI (0)))]) (st' := []) (w' := modW 0 S ((X.rf, wo, ta, (owF S), 0, X.sh, X.lt, X.ty, X.pl, X.nu, X.od, X.tt, X.oo, X.on, (wonZ S), (wonZ S), X.li, X.rr, X.rn, X.dr) : ModN) K) rfl rfl rfl ?_
  refine ev_b bX7_pays_36_41 (lv' := [(0, .ref 0), (1, .int (nI (b))), (2, .int (nI (0)))]) (st' := [.int (nI (b)), .ref 17]) (w2 := modW 0 S ((X.rf, wo, ta, (owF S), 0, X.sh, X.lt, X.ty, X.pl, X.nu, X.od, X.tt, X.oo, X.on, (wonZ S), (wonZ S), X.li, X.rr, X.rn, X.dr) : ModN) K) rfl ?_
  refine ev_iald_z (f := (wonZ S)) dX7_pays_41 rfl (by omega) (by decide) ?_
  exact ev_iret dX7_pays_42 rfl mod_le (Nat.le_refl _) (Nat.le_refl _) ⟨rfl, _, rfl, mok_fresh hM.1 rfl hT, rfl, rfl, rfl, rfl, rfl⟩
set_option maxHeartbeats 4000000 in
set_option maxRecDepth 100000 in
theorem q_pays_w1 {l : Launch} {E : XE} (S : SaleN) (X : ModN) (K : Option (Nat → Nat)) (n b : Nat) (hS : SaleOK S) (hM : MOK S X) (hn : LiftsTo S n) (hb : b < 5) : MetE l E mX7_pays (8) 0 0 [.ref 0, .int (nI (b)), .int (nI (1))] (modW 0 S X K) (MP S K (X.lt) (X.ty) (X.rr) (X.rn) (X.rf) (some (.int (zI ((paidZ S) b))))) := by
  refine MetE.of (by decide +kernel) (Nat.le_of_ble_eq_true rfl) ?_
  have hca := hS.1
  have hpw := pow_ca hS
  have hac := ac_lt hS
  have hshl := shl_le hS
  
  refine ev_eq (lv' := [(0, .ref 0), (1, .int (nI (b))), (2, .int (nI (1)))]) (st' := []) (w' := modW 0 S X K) rfl rfl rfl ?_
  refine ev_b bX7_pays_0_3 (lv' := [(0, .ref 0), (1, .int (nI (b))), (2, .int (nI (1)))]) (st' := [.int (nI (4)), .int (nI (0)), .int (nI (b))]) (w2 := modW 0 S X K) rfl ?_
  refine ev_callS (Yc := mX7_isIn) [] dX7_pays_3 tw_1036 kX7_isIn (m_X7_isIn_n b 0 4 (by omega) (by decide) (by decide)) rfl (st := []) rfl (by decide) rfl (by decide) (Nat.le_of_ble_eq_true rfl) (Nat.le_refl _) (Nat.le_refl _) (fun r w' h => by obtain ⟨-, rfl⟩ := h; exact Nat.le_of_ble_eq_true rfl) ?_
  rintro _ _ ⟨rfl, rfl⟩
  refine ev_eq (lv' := [(0, .ref 0), (1, .int (nI (b))), (2, .int (nI (1)))]) (st' := [.int (nI (b01 (0 ≤ b ∧ b ≤ 4)))]) (w' := modW 0 S X K) rfl rfl rfl ?_
  refine ev_ifne_b (tgt := 15) dX7_pays_6 (by decide) (fun h6 => ?_) (fun h6 => (by exfalso; omega))
  refine ev_b bX7_pays_15_18 (lv' := [(0, .ref 0), (1, .int (nI (b))), (2, .int (nI (1)))]) (st' := [.int (nI (2)), .int (nI (0)), .int (nI (1))]) (w2 := modW 0 S X K) rfl ?_
  refine ev_callS (Yc := mX7_isIn) [] dX7_pays_18 tw_1036 kX7_isIn (m_X7_isIn_n 1 0 2 (by decide) (by decide) (by decide)) rfl (st := []) rfl (by decide) rfl (by decide) (Nat.le_of_ble_eq_true rfl) (Nat.le_refl _) (Nat.le_refl _) (fun r w' h => by obtain ⟨-, rfl⟩ := h; exact Nat.le_of_ble_eq_true rfl) ?_
  rintro _ _ ⟨rfl, rfl⟩
  refine ev_eq (lv' := [(0, .ref 0), (1, .int (nI (b))), (2, .int (nI (1)))]) (st' := [.int (nI (b01 (0 ≤ 1 ∧ 1 ≤ 2)))]) (w' := modW 0 S X K) rfl rfl rfl ?_
  refine ev_ifne_b (tgt := 31) dX7_pays_21 (by decide) (fun h21 => ?_) (fun h21 => (by exfalso; omega))
  refine ev_b bX7_pays_31_33 (lv' := [(0, .ref 0), (1, .int (nI (b))), (2, .int (nI (1)))]) (st' := [.int (nI (1)), .ref 0]) (w2 := modW 0 S X K) rfl ?_
  refine ev_callM (Yc := mX7_finds) (st := []) dX7_pays_33 tw_1216 kX7_finds (m_X7_finds_1 S X K hS hM) rfl rfl rfl rfl (by decide) (Nat.le_of_ble_eq_true rfl) (Nat.le_refl _) (Nat.le_refl _) (fun r w' h => by obtain ⟨-, wo, ta, rfl, -⟩ := h; exact mod_eq) ?_
  rintro _ _ ⟨rfl, wo, ta, rfl, hT⟩
  refine ev_eq (lv' := [(0, .ref 0), (1, .int (nI (b))), (2, .int (nI (1)))]) (st' := []) (w' := modW 0 S ((X.rf, wo, ta, (owF S), 0, X.sh, X.lt, X.ty, X.pl, X.nu, X.od, X.tt, X.oo, X.on, (wonZ S), (paidZ S), X.li, X.rr, X.rn, X.dr) : ModN) K) rfl rfl rfl ?_
  refine ev_b bX7_pays_36_41 (lv' := [(0, .ref 0), (1, .int (nI (b))), (2, .int (nI (1)))]) (st' := [.int (nI (b)), .ref 17]) (w2 := modW 0 S ((X.rf, wo, ta, (owF S), 0, X.sh, X.lt, X.ty, X.pl, X.nu, X.od, X.tt, X.oo, X.on, (wonZ S), (paidZ S), X.li, X.rr, X.rn, X.dr) : ModN) K) rfl ?_
  refine ev_iald_z (f := (paidZ S)) dX7_pays_41 rfl (by omega) (by decide) ?_
  exact ev_iret dX7_pays_42 rfl mod_le (Nat.le_refl _) (Nat.le_refl _) ⟨rfl, _, rfl, mok_fresh hM.1 rfl hT, rfl, rfl, rfl, rfl, rfl⟩
set_option maxHeartbeats 4000000 in
set_option maxRecDepth 100000 in
theorem q_pays_w2 {l : Launch} {E : XE} (S : SaleN) (X : ModN) (K : Option (Nat → Nat)) (n b : Nat) (hS : SaleOK S) (hM : MOK S X) (hn : LiftsTo S n) (hb : b < 5) : MetE l E mX7_pays (9) 0 0 [.ref 0, .int (nI (b)), .int (nI (2))] (modW 0 S X K) (MP S K (X.lt) (X.ty) (X.rr) (X.rn) (X.rf) (some (.int (zI (itS S n b))))) := by
  refine MetE.of (by decide +kernel) (Nat.le_of_ble_eq_true rfl) ?_
  have hca := hS.1
  have hpw := pow_ca hS
  have hac := ac_lt hS
  have hshl := shl_le hS
  
  refine ev_eq (lv' := [(0, .ref 0), (1, .int (nI (b))), (2, .int (nI (2)))]) (st' := []) (w' := modW 0 S X K) rfl rfl rfl ?_
  refine ev_b bX7_pays_0_3 (lv' := [(0, .ref 0), (1, .int (nI (b))), (2, .int (nI (2)))]) (st' := [.int (nI (4)), .int (nI (0)), .int (nI (b))]) (w2 := modW 0 S X K) rfl ?_
  refine ev_callS (Yc := mX7_isIn) [] dX7_pays_3 tw_1036 kX7_isIn (m_X7_isIn_n b 0 4 (by omega) (by decide) (by decide)) rfl (st := []) rfl (by decide) rfl (by decide) (Nat.le_of_ble_eq_true rfl) (Nat.le_refl _) (Nat.le_refl _) (fun r w' h => by obtain ⟨-, rfl⟩ := h; exact Nat.le_of_ble_eq_true rfl) ?_
  rintro _ _ ⟨rfl, rfl⟩
  refine ev_eq (lv' := [(0, .ref 0), (1, .int (nI (b))), (2, .int (nI (2)))]) (st' := [.int (nI (b01 (0 ≤ b ∧ b ≤ 4)))]) (w' := modW 0 S X K) rfl rfl rfl ?_
  refine ev_ifne_b (tgt := 15) dX7_pays_6 (by decide) (fun h6 => ?_) (fun h6 => (by exfalso; omega))
  refine ev_b bX7_pays_15_18 (lv' := [(0, .ref 0), (1, .int (nI (b))), (2, .int (nI (2)))]) (st' := [.int (nI (2)), .int (nI (0)), .int (nI (2))]) (w2 := modW 0 S X K) rfl ?_
  refine ev_callS (Yc := mX7_isIn) [] dX7_pays_18 tw_1036 kX7_isIn (m_X7_isIn_n 2 0 2 (by decide) (by decide) (by decide)) rfl (st := []) rfl (by decide) rfl (by decide) (Nat.le_of_ble_eq_true rfl) (Nat.le_refl _) (Nat.le_refl _) (fun r w' h => by obtain ⟨-, rfl⟩ := h; exact Nat.le_of_ble_eq_true rfl) ?_
  rintro _ _ ⟨rfl, rfl⟩
  refine ev_eq (lv' := [(0, .ref 0), (1, .int (nI (b))), (2, .int (nI (2)))]) (st' := [.int (nI (b01 (0 ≤ 2 ∧ 2 ≤ 2)))]) (w' := modW 0 S X K) rfl rfl rfl ?_
  refine ev_ifne_b (tgt := 31) dX7_pays_21 (by decide) (fun h21 => ?_) (fun h21 => (by exfalso; omega))
  refine ev_b bX7_pays_31_33 (lv' := [(0, .ref 0), (1, .int (nI (b))), (2, .int (nI (2)))]) (st' := [.int (nI (2)), .ref 0]) (w2 := modW 0 S X K) rfl ?_
  refine ev_callM (Yc := mX7_finds) (st := []) dX7_pays_33 tw_1216 kX7_finds (m_X7_finds_2 S X K n hS hM hn) rfl rfl rfl rfl (by decide) (Nat.le_of_ble_eq_true rfl) (Nat.le_refl _) (Nat.le_refl _) (fun r w' h => by obtain ⟨-, wo, ta, rfl, -⟩ := h; exact mod_eq) ?_
  rintro _ _ ⟨rfl, wo, ta, rfl, hT⟩
  refine ev_eq (lv' := [(0, .ref 0), (1, .int (nI (b))), (2, .int (nI (2)))]) (st' := []) (w' := modW 0 S ((X.rf, wo, ta, (owF S), 0, X.sh, X.lt, X.ty, X.pl, X.nu, X.od, X.tt, X.oo, X.on, (wonZ S), (itS S n), n, X.rr, X.rn, X.dr) : ModN) K) rfl rfl rfl ?_
  refine ev_b bX7_pays_36_41 (lv' := [(0, .ref 0), (1, .int (nI (b))), (2, .int (nI (2)))]) (st' := [.int (nI (b)), .ref 17]) (w2 := modW 0 S ((X.rf, wo, ta, (owF S), 0, X.sh, X.lt, X.ty, X.pl, X.nu, X.od, X.tt, X.oo, X.on, (wonZ S), (itS S n), n, X.rr, X.rn, X.dr) : ModN) K) rfl ?_
  refine ev_iald_z (f := (itS S n)) dX7_pays_41 rfl (by omega) (by decide) ?_
  exact ev_iret dX7_pays_42 rfl mod_le (Nat.le_refl _) (Nat.le_refl _) ⟨rfl, _, rfl, mok_fresh hM.1 rfl hT, rfl, rfl, rfl, rfl, rfl⟩
theorem bX7_blocks_0_3 {l : Launch} {E : XE} : Snd l E mX7_blocks 0 3 (xs [x_iload 1, x_push (.int (nI 0)), x_push (.int (nI 2))]) := Snd.cons (snd_iload_n (i := 1) dX7_blocks_0 rfl) (Snd.cons (snd_iconst (v := nI 0) dX7_blocks_1 (by decide)) (Snd.cons (snd_iconst (v := nI 2) dX7_blocks_2 (by decide)) Snd.nil))
theorem bX7_blocks_18_21 {l : Launch} {E : XE} : Snd l E mX7_blocks 18 21 (xs [x_aload 0, x_push (.int (-2))]) := Snd.cons (snd_aload_n (i := 0) dX7_blocks_18 rfl) (Snd.cons (snd_bipush (v := -2) dX7_blocks_19 (by decide)) Snd.nil)
set_option maxHeartbeats 4000000 in
set_option maxRecDepth 100000 in
theorem q_blocks_2a {l : Launch} {E : XE} (S : SaleN) (X : ModN) (K : Option (Nat → Nat)) (z1 z2 : Int) (hS : SaleOK S) (hM : MOK S X) (rz1 : -2147483648 ≤ z1 ∧ z1 < 2147483648) (rz2 : -2147483648 ≤ z2 ∧ z2 < 2147483648) (h : ¬ (0 ≤ z1 ∧ z1 < 3)) : MetE l E mX7_blocks (1) 0 0 [.ref 0, .int (zI (z1)), .int (zI (z2))] (modW 0 S X K) (MP S K (X.lt) (X.ty) (X.rr) (X.rn) ((up X.rf 2 (X.rf 2 + 1))) (some (.int (-2)))) := by
  refine MetE.of (by decide +kernel) (Nat.le_of_ble_eq_true rfl) ?_
  have hca := hS.1
  have hpw := pow_ca hS
  have hac := ac_lt hS
  have hshl := shl_le hS
  
  refine ev_eq (lv' := [(0, .ref 0), (1, .int (zI (z1))), (2, .int (zI (z2)))]) (st' := []) (w' := modW 0 S X K) rfl rfl rfl ?_
  refine ev_b bX7_blocks_0_3 (lv' := [(0, .ref 0), (1, .int (zI (z1))), (2, .int (zI (z2)))]) (st' := [.int (nI (2)), .int (nI (0)), .int (zI (z1))]) (w2 := modW 0 S X K) rfl ?_
  refine ev_callS (Yc := mX7_isIn) [] dX7_blocks_3 tw_1036 kX7_isIn (m_X7_isIn_z z1 0 2 rz1 (by decide) (by decide)) rfl (st := []) rfl (by decide) rfl (by decide) (Nat.le_of_ble_eq_true rfl) (Nat.le_refl _) (Nat.le_refl _) (fun r w' h => by obtain ⟨-, rfl⟩ := h; exact Nat.le_of_ble_eq_true rfl) ?_
  rintro _ _ ⟨rfl, rfl⟩
  refine ev_eq (lv' := [(0, .ref 0), (1, .int (zI (z1))), (2, .int (zI (z2)))]) (st' := [.int (nI (b01 (((0 : Nat) : Int) ≤ z1 ∧ z1 ≤ ((2 : Nat) : Int))))]) (w' := modW 0 S X K) rfl rfl rfl ?_
  refine ev_ifeq_b (tgt := 18) dX7_blocks_6 (by decide) (fun h6 => ?_) (fun h6 => (by exfalso; omega))
  refine ev_b bX7_blocks_18_21 (lv' := [(0, .ref 0), (1, .int (zI (z1))), (2, .int (zI (z2)))]) (st' := [.int (-2), .ref 0]) (w2 := modW 0 S X K) rfl ?_
  refine ev_callM (Yc := mX7_refuses) (st := []) dX7_blocks_21 tw_1012 kX7_refuses (m_X7_refuses_2 S X K) rfl rfl rfl rfl (by decide) (Nat.le_of_ble_eq_true rfl) (Nat.le_refl _) (Nat.le_refl _) (fun r w' h => by obtain ⟨-, rfl⟩ := h; exact mod_eq) ?_
  rintro _ _ ⟨rfl, rfl⟩
  refine ev_eq (lv' := [(0, .ref 0), (1, .int (zI (z1))), (2, .int (zI (z2)))]) (st' := [.int (-2)]) (w' := modW 0 S (((up X.rf 2 (X.rf 2 + 1)), X.wo, X.ta, X.ow, X.sl, X.sh, X.lt, X.ty, X.pl, X.nu, X.od, X.tt, X.oo, X.on, X.wn, X.pd, X.li, X.rr, X.rn, X.dr) : ModN) K) rfl rfl rfl ?_
  exact ev_iret dX7_blocks_24 rfl mod_le (Nat.le_refl _) (Nat.le_refl _) ⟨rfl, _, rfl, hM, rfl, rfl, rfl, rfl, rfl⟩
theorem bX7_blocks_9_12 {l : Launch} {E : XE} : Snd l E mX7_blocks 9 12 (xs [x_iload 2, x_push (.int (nI 0)), x_push (.int (nI 1))]) := Snd.cons (snd_iload_n (i := 2) dX7_blocks_9 rfl) (Snd.cons (snd_iconst (v := nI 0) dX7_blocks_10 (by decide)) (Snd.cons (snd_iconst (v := nI 1) dX7_blocks_11 (by decide)) Snd.nil))
set_option maxHeartbeats 4000000 in
set_option maxRecDepth 100000 in
theorem q_blocks_2b {l : Launch} {E : XE} (S : SaleN) (X : ModN) (K : Option (Nat → Nat)) (z1 z2 : Int) (hS : SaleOK S) (hM : MOK S X) (rz1 : -2147483648 ≤ z1 ∧ z1 < 2147483648) (rz2 : -2147483648 ≤ z2 ∧ z2 < 2147483648) (h : 0 ≤ z1 ∧ z1 < 3) (h2 : ¬ (z2 = 0 ∨ z2 = 1)) : MetE l E mX7_blocks (1) 0 0 [.ref 0, .int (zI (z1)), .int (zI (z2))] (modW 0 S X K) (MP S K (X.lt) (X.ty) (X.rr) (X.rn) ((up X.rf 2 (X.rf 2 + 1))) (some (.int (-2)))) := by
  refine MetE.of (by decide +kernel) (Nat.le_of_ble_eq_true rfl) ?_
  have hca := hS.1
  have hpw := pow_ca hS
  have hac := ac_lt hS
  have hshl := shl_le hS
  
  refine ev_eq (lv' := [(0, .ref 0), (1, .int (zI (z1))), (2, .int (zI (z2)))]) (st' := []) (w' := modW 0 S X K) rfl rfl rfl ?_
  refine ev_b bX7_blocks_0_3 (lv' := [(0, .ref 0), (1, .int (zI (z1))), (2, .int (zI (z2)))]) (st' := [.int (nI (2)), .int (nI (0)), .int (zI (z1))]) (w2 := modW 0 S X K) rfl ?_
  refine ev_callS (Yc := mX7_isIn) [] dX7_blocks_3 tw_1036 kX7_isIn (m_X7_isIn_z z1 0 2 rz1 (by decide) (by decide)) rfl (st := []) rfl (by decide) rfl (by decide) (Nat.le_of_ble_eq_true rfl) (Nat.le_refl _) (Nat.le_refl _) (fun r w' h => by obtain ⟨-, rfl⟩ := h; exact Nat.le_of_ble_eq_true rfl) ?_
  rintro _ _ ⟨rfl, rfl⟩
  refine ev_eq (lv' := [(0, .ref 0), (1, .int (zI (z1))), (2, .int (zI (z2)))]) (st' := [.int (nI (b01 (((0 : Nat) : Int) ≤ z1 ∧ z1 ≤ ((2 : Nat) : Int))))]) (w' := modW 0 S X K) rfl rfl rfl ?_
  refine ev_ifeq_b (tgt := 18) dX7_blocks_6 (by decide) (fun h6 => (by exfalso; omega)) (fun h6 => ?_)
  refine ev_b bX7_blocks_9_12 (lv' := [(0, .ref 0), (1, .int (zI (z1))), (2, .int (zI (z2)))]) (st' := [.int (nI (1)), .int (nI (0)), .int (zI (z2))]) (w2 := modW 0 S X K) rfl ?_
  refine ev_callS (Yc := mX7_isIn) [] dX7_blocks_12 tw_1036 kX7_isIn (m_X7_isIn_z z2 0 1 rz2 (by decide) (by decide)) rfl (st := []) rfl (by decide) rfl (by decide) (Nat.le_of_ble_eq_true rfl) (Nat.le_refl _) (Nat.le_refl _) (fun r w' h => by obtain ⟨-, rfl⟩ := h; exact Nat.le_of_ble_eq_true rfl) ?_
  rintro _ _ ⟨rfl, rfl⟩
  refine ev_eq (lv' := [(0, .ref 0), (1, .int (zI (z1))), (2, .int (zI (z2)))]) (st' := [.int (nI (b01 (((0 : Nat) : Int) ≤ z2 ∧ z2 ≤ ((1 : Nat) : Int))))]) (w' := modW 0 S X K) rfl rfl rfl ?_
  refine ev_ifne_b (tgt := 25) dX7_blocks_15 (by decide) (fun h15 => (by exfalso; omega)) (fun h15 => ?_)
  refine ev_b bX7_blocks_18_21 (lv' := [(0, .ref 0), (1, .int (zI (z1))), (2, .int (zI (z2)))]) (st' := [.int (-2), .ref 0]) (w2 := modW 0 S X K) rfl ?_
  refine ev_callM (Yc := mX7_refuses) (st := []) dX7_blocks_21 tw_1012 kX7_refuses (m_X7_refuses_2 S X K) rfl rfl rfl rfl (by decide) (Nat.le_of_ble_eq_true rfl) (Nat.le_refl _) (Nat.le_refl _) (fun r w' h => by obtain ⟨-, rfl⟩ := h; exact mod_eq) ?_
  rintro _ _ ⟨rfl, rfl⟩
  refine ev_eq (lv' := [(0, .ref 0), (1, .int (zI (z1))), (2, .int (zI (z2)))]) (st' := [.int (-2)]) (w' := modW 0 S (((up X.rf 2 (X.rf 2 + 1)), X.wo, X.ta, X.ow, X.sl, X.sh, X.lt, X.ty, X.pl, X.nu, X.od, X.tt, X.oo, X.on, X.wn, X.pd, X.li, X.rr, X.rn, X.dr) : ModN) K) rfl rfl rfl ?_
  exact ev_iret dX7_blocks_24 rfl mod_le (Nat.le_refl _) (Nat.le_refl _) ⟨rfl, _, rfl, hM, rfl, rfl, rfl, rfl, rfl⟩
theorem bX7_blocks_25_27 {l : Launch} {E : XE} : Snd l E mX7_blocks 25 27 (xs [x_aload 0, x_iload 1]) := Snd.cons (snd_aload_n (i := 0) dX7_blocks_25 rfl) (Snd.cons (snd_iload_n (i := 1) dX7_blocks_26 rfl) Snd.nil)
theorem bX7_blocks_30_31 {l : Launch} {E : XE} : Snd l E mX7_blocks 30 31 (xs [x_aload 0]) := Snd.cons (snd_aload_n (i := 0) dX7_blocks_30 rfl) Snd.nil
theorem bX7_blocks_34_36 {l : Launch} {E : XE} : Snd l E mX7_blocks 34 36 (xs [x_istore 3, x_iload 2]) := Snd.cons (snd_istore_n (i := 3) dX7_blocks_34 rfl (by decide)) (Snd.cons (snd_iload_n (i := 2) dX7_blocks_35 rfl) Snd.nil)
theorem bX7_blocks_39_56 {l : Launch} {E : XE} : Snd l E mX7_blocks 39 56 (xs [x_iload 3, x_id]) := Snd.cons (snd_iload_n (i := 3) dX7_blocks_39 rfl) (Snd.cons (snd_goto (tgt := 56) dX7_blocks_40 (by decide)) Snd.nil)
set_option maxHeartbeats 4000000 in
set_option maxRecDepth 100000 in
theorem q_blocks_w0_0 {l : Launch} {E : XE} (S : SaleN) (X : ModN) (K : Option (Nat → Nat)) (n : Nat) (hS : SaleOK S) (hM : MOK S X) (hn : LiftsTo S n) : MetE l E mX7_blocks (8) 0 0 [.ref 0, .int (nI (0)), .int (nI (0))] (modW 0 S X K) (MP S K (X.lt) (X.ty) (X.rr) (X.rn) (X.rf) (some (.int (zI ((blkS S (wonZ S)).2))))) := by
  refine MetE.of (by decide +kernel) (Nat.le_of_ble_eq_true rfl) ?_
  have hca := hS.1
  have hpw := pow_ca hS
  have hac := ac_lt hS
  have hshl := shl_le hS
  
  refine ev_eq (lv' := [(0, .ref 0), (1, .int (nI (0))), (2, .int (nI (0)))]) (st' := []) (w' := modW 0 S X K) rfl rfl rfl ?_
  refine ev_b bX7_blocks_0_3 (lv' := [(0, .ref 0), (1, .int (nI (0))), (2, .int (nI (0)))]) (st' := [.int (nI (2)), .int (nI (0)), .int (nI (0))]) (w2 := modW 0 S X K) rfl ?_
  refine ev_callS (Yc := mX7_isIn) [] dX7_blocks_3 tw_1036 kX7_isIn (m_X7_isIn_n 0 0 2 (by decide) (by decide) (by decide)) rfl (st := []) rfl (by decide) rfl (by decide) (Nat.le_of_ble_eq_true rfl) (Nat.le_refl _) (Nat.le_refl _) (fun r w' h => by obtain ⟨-, rfl⟩ := h; exact Nat.le_of_ble_eq_true rfl) ?_
  rintro _ _ ⟨rfl, rfl⟩
  refine ev_eq (lv' := [(0, .ref 0), (1, .int (nI (0))), (2, .int (nI (0)))]) (st' := [.int (nI (b01 (0 ≤ 0 ∧ 0 ≤ 2)))]) (w' := modW 0 S X K) rfl rfl rfl ?_
  refine ev_ifeq_b (tgt := 18) dX7_blocks_6 (by decide) (fun h6 => (by exfalso; omega)) (fun h6 => ?_)
  refine ev_b bX7_blocks_9_12 (lv' := [(0, .ref 0), (1, .int (nI (0))), (2, .int (nI (0)))]) (st' := [.int (nI (1)), .int (nI (0)), .int (nI (0))]) (w2 := modW 0 S X K) rfl ?_
  refine ev_callS (Yc := mX7_isIn) [] dX7_blocks_12 tw_1036 kX7_isIn (m_X7_isIn_n 0 0 1 (by decide) (by decide) (by decide)) rfl (st := []) rfl (by decide) rfl (by decide) (Nat.le_of_ble_eq_true rfl) (Nat.le_refl _) (Nat.le_refl _) (fun r w' h => by obtain ⟨-, rfl⟩ := h; exact Nat.le_of_ble_eq_true rfl) ?_
  rintro _ _ ⟨rfl, rfl⟩
  refine ev_eq (lv' := [(0, .ref 0), (1, .int (nI (0))), (2, .int (nI (0)))]) (st' := [.int (nI (b01 (0 ≤ 0 ∧ 0 ≤ 1)))]) (w' := modW 0 S X K) rfl rfl rfl ?_
  refine ev_ifne_b (tgt := 25) dX7_blocks_15 (by decide) (fun h15 => ?_) (fun h15 => (by exfalso; omega))
  refine ev_b bX7_blocks_25_27 (lv' := [(0, .ref 0), (1, .int (nI (0))), (2, .int (nI (0)))]) (st' := [.int (nI (0)), .ref 0]) (w2 := modW 0 S X K) rfl ?_
  refine ev_callM (Yc := mX7_finds) (st := []) dX7_blocks_27 tw_1216 kX7_finds (m_X7_finds_0 S X K hS hM) rfl rfl rfl rfl (by decide) (Nat.le_of_ble_eq_true rfl) (Nat.le_refl _) (Nat.le_refl _) (fun r w' h => by obtain ⟨-, wo, ta, rfl, -⟩ := h; exact mod_eq) ?_
  rintro _ _ ⟨rfl, wo, ta, rfl, hT⟩
  refine ev_eq (lv' := [(0, .ref 0), (1, .int (nI (0))), (2, .int (nI (0)))]) (st' := []) (w' := modW 0 S ((X.rf, wo, ta, (owF S), 0, X.sh, X.lt, X.ty, X.pl, X.nu, X.od, X.tt, X.oo, X.on, (wonZ S), (wonZ S), X.li, X.rr, X.rn, X.dr) : ModN) K) rfl rfl rfl ?_
  refine ev_b bX7_blocks_30_31 (lv' := [(0, .ref 0), (1, .int (nI (0))), (2, .int (nI (0)))]) (st' := [.ref 0]) (w2 := modW 0 S ((X.rf, wo, ta, (owF S), 0, X.sh, X.lt, X.ty, X.pl, X.nu, X.od, X.tt, X.oo, X.on, (wonZ S), (wonZ S), X.li, X.rr, X.rn, X.dr) : ModN) K) rfl ?_
  refine ev_callM (Yc := mX7_blocker) (st := []) dX7_blocks_31 tw_1228 kX7_blocker (m_X7_blocker S ((X.rf, wo, ta, (owF S), 0, X.sh, X.lt, X.ty, X.pl, X.nu, X.od, X.tt, X.oo, X.on, (wonZ S), (wonZ S), X.li, X.rr, X.rn, X.dr) : ModN) K hS rfl hT rfl (wonZ_b hS)) rfl rfl rfl rfl (by decide) (Nat.le_of_ble_eq_true rfl) (Nat.le_refl _) (Nat.le_refl _) (fun r w' h => by obtain ⟨-, rfl⟩ := h; exact mod_eq) ?_
  rintro _ _ ⟨rfl, rfl⟩
  refine ev_eq (lv' := [(0, .ref 0), (1, .int (nI (0))), (2, .int (nI (0)))]) (st' := [.int (zI ((blkS S (wonZ S)).2))]) (w' := modW 0 S ((X.rf, wo, ta, (owF S), 0, X.sh, X.lt, X.ty, X.pl, X.nu, X.od, X.tt, X.oo, X.on, (wonZ S), (wonZ S), X.li, X.rr, X.rn, X.dr) : ModN) K) rfl rfl rfl ?_
  refine ev_b bX7_blocks_34_36 (lv' := [(3, .int (zI ((blkS S (wonZ S)).2))), (0, .ref 0), (1, .int (nI (0))), (2, .int (nI (0)))]) (st' := [.int (nI (0))]) (w2 := modW 0 S ((X.rf, wo, ta, (owF S), 0, X.sh, X.lt, X.ty, X.pl, X.nu, X.od, X.tt, X.oo, X.on, (wonZ S), (wonZ S), X.li, X.rr, X.rn, X.dr) : ModN) K) rfl ?_
  refine ev_if_ne_n (tgt := 43) (by decide) dX7_blocks_36 (by decide) (fun h36 => (by exfalso; omega)) (fun h36 => ?_)
  refine ev_b bX7_blocks_39_56 (lv' := [(3, .int (zI ((blkS S (wonZ S)).2))), (0, .ref 0), (1, .int (nI (0))), (2, .int (nI (0)))]) (st' := [.int (zI ((blkS S (wonZ S)).2))]) (w2 := modW 0 S ((X.rf, wo, ta, (owF S), 0, X.sh, X.lt, X.ty, X.pl, X.nu, X.od, X.tt, X.oo, X.on, (wonZ S), (wonZ S), X.li, X.rr, X.rn, X.dr) : ModN) K) rfl ?_
  exact ev_iret dX7_blocks_56 rfl mod_le (Nat.le_refl _) (Nat.le_refl _) ⟨rfl, _, rfl, mok_fresh hM.1 rfl hT, rfl, rfl, rfl, rfl, rfl⟩
theorem bX7_blocks_43_44 {l : Launch} {E : XE} : Snd l E mX7_blocks 43 44 (xs [x_iload 3]) := Snd.cons (snd_iload_n (i := 3) dX7_blocks_43 rfl) Snd.nil
theorem bX7_blocks_47_56 {l : Launch} {E : XE} : Snd l E mX7_blocks 47 56 (xs [x_push (.int (nI 0)), x_id]) := Snd.cons (snd_iconst (v := nI 0) dX7_blocks_47 (by decide)) (Snd.cons (snd_goto (tgt := 56) dX7_blocks_48 (by decide)) Snd.nil)
set_option maxHeartbeats 4000000 in
set_option maxRecDepth 100000 in
theorem q_blocks_w0_1n {l : Launch} {E : XE} (S : SaleN) (X : ModN) (K : Option (Nat → Nat)) (n : Nat) (hS : SaleOK S) (hM : MOK S X) (hn : LiftsTo S n) (hb : (blkS S (wonZ S)).2 = -9) : MetE l E mX7_blocks (8) 0 0 [.ref 0, .int (nI (0)), .int (nI (1))] (modW 0 S X K) (MP S K (X.lt) (X.ty) (X.rr) (X.rn) (X.rf) (some (.int (nI (0))))) := by
  refine MetE.of (by decide +kernel) (Nat.le_of_ble_eq_true rfl) ?_
  have hca := hS.1
  have hpw := pow_ca hS
  have hac := ac_lt hS
  have hshl := shl_le hS
  
  refine ev_eq (lv' := [(0, .ref 0), (1, .int (nI (0))), (2, .int (nI (1)))]) (st' := []) (w' := modW 0 S X K) rfl rfl rfl ?_
  refine ev_b bX7_blocks_0_3 (lv' := [(0, .ref 0), (1, .int (nI (0))), (2, .int (nI (1)))]) (st' := [.int (nI (2)), .int (nI (0)), .int (nI (0))]) (w2 := modW 0 S X K) rfl ?_
  refine ev_callS (Yc := mX7_isIn) [] dX7_blocks_3 tw_1036 kX7_isIn (m_X7_isIn_n 0 0 2 (by decide) (by decide) (by decide)) rfl (st := []) rfl (by decide) rfl (by decide) (Nat.le_of_ble_eq_true rfl) (Nat.le_refl _) (Nat.le_refl _) (fun r w' h => by obtain ⟨-, rfl⟩ := h; exact Nat.le_of_ble_eq_true rfl) ?_
  rintro _ _ ⟨rfl, rfl⟩
  refine ev_eq (lv' := [(0, .ref 0), (1, .int (nI (0))), (2, .int (nI (1)))]) (st' := [.int (nI (b01 (0 ≤ 0 ∧ 0 ≤ 2)))]) (w' := modW 0 S X K) rfl rfl rfl ?_
  refine ev_ifeq_b (tgt := 18) dX7_blocks_6 (by decide) (fun h6 => (by exfalso; omega)) (fun h6 => ?_)
  refine ev_b bX7_blocks_9_12 (lv' := [(0, .ref 0), (1, .int (nI (0))), (2, .int (nI (1)))]) (st' := [.int (nI (1)), .int (nI (0)), .int (nI (1))]) (w2 := modW 0 S X K) rfl ?_
  refine ev_callS (Yc := mX7_isIn) [] dX7_blocks_12 tw_1036 kX7_isIn (m_X7_isIn_n 1 0 1 (by decide) (by decide) (by decide)) rfl (st := []) rfl (by decide) rfl (by decide) (Nat.le_of_ble_eq_true rfl) (Nat.le_refl _) (Nat.le_refl _) (fun r w' h => by obtain ⟨-, rfl⟩ := h; exact Nat.le_of_ble_eq_true rfl) ?_
  rintro _ _ ⟨rfl, rfl⟩
  refine ev_eq (lv' := [(0, .ref 0), (1, .int (nI (0))), (2, .int (nI (1)))]) (st' := [.int (nI (b01 (0 ≤ 1 ∧ 1 ≤ 1)))]) (w' := modW 0 S X K) rfl rfl rfl ?_
  refine ev_ifne_b (tgt := 25) dX7_blocks_15 (by decide) (fun h15 => ?_) (fun h15 => (by exfalso; omega))
  refine ev_b bX7_blocks_25_27 (lv' := [(0, .ref 0), (1, .int (nI (0))), (2, .int (nI (1)))]) (st' := [.int (nI (0)), .ref 0]) (w2 := modW 0 S X K) rfl ?_
  refine ev_callM (Yc := mX7_finds) (st := []) dX7_blocks_27 tw_1216 kX7_finds (m_X7_finds_0 S X K hS hM) rfl rfl rfl rfl (by decide) (Nat.le_of_ble_eq_true rfl) (Nat.le_refl _) (Nat.le_refl _) (fun r w' h => by obtain ⟨-, wo, ta, rfl, -⟩ := h; exact mod_eq) ?_
  rintro _ _ ⟨rfl, wo, ta, rfl, hT⟩
  refine ev_eq (lv' := [(0, .ref 0), (1, .int (nI (0))), (2, .int (nI (1)))]) (st' := []) (w' := modW 0 S ((X.rf, wo, ta, (owF S), 0, X.sh, X.lt, X.ty, X.pl, X.nu, X.od, X.tt, X.oo, X.on, (wonZ S), (wonZ S), X.li, X.rr, X.rn, X.dr) : ModN) K) rfl rfl rfl ?_
  refine ev_b bX7_blocks_30_31 (lv' := [(0, .ref 0), (1, .int (nI (0))), (2, .int (nI (1)))]) (st' := [.ref 0]) (w2 := modW 0 S ((X.rf, wo, ta, (owF S), 0, X.sh, X.lt, X.ty, X.pl, X.nu, X.od, X.tt, X.oo, X.on, (wonZ S), (wonZ S), X.li, X.rr, X.rn, X.dr) : ModN) K) rfl ?_
  refine ev_callM (Yc := mX7_blocker) (st := []) dX7_blocks_31 tw_1228 kX7_blocker (m_X7_blocker S ((X.rf, wo, ta, (owF S), 0, X.sh, X.lt, X.ty, X.pl, X.nu, X.od, X.tt, X.oo, X.on, (wonZ S), (wonZ S), X.li, X.rr, X.rn, X.dr) : ModN) K hS rfl hT rfl (wonZ_b hS)) rfl rfl rfl rfl (by decide) (Nat.le_of_ble_eq_true rfl) (Nat.le_refl _) (Nat.le_refl _) (fun r w' h => by obtain ⟨-, rfl⟩ := h; exact mod_eq) ?_
  rintro _ _ ⟨rfl, rfl⟩
  refine ev_eq (lv' := [(0, .ref 0), (1, .int (nI (0))), (2, .int (nI (1)))]) (st' := [.int (zI ((blkS S (wonZ S)).2))]) (w' := modW 0 S ((X.rf, wo, ta, (owF S), 0, X.sh, X.lt, X.ty, X.pl, X.nu, X.od, X.tt, X.oo, X.on, (wonZ S), (wonZ S), X.li, X.rr, X.rn, X.dr) : ModN) K) rfl rfl rfl ?_
  refine ev_top (y := (zI (-9))) (congrArg zI (show (blkS S (wonZ S)).2 = -9 from by exact hb)) ?_
  refine ev_b bX7_blocks_34_36 (lv' := [(3, .int (zI (-9))), (0, .ref 0), (1, .int (nI (0))), (2, .int (nI (1)))]) (st' := [.int (nI (1))]) (w2 := modW 0 S ((X.rf, wo, ta, (owF S), 0, X.sh, X.lt, X.ty, X.pl, X.nu, X.od, X.tt, X.oo, X.on, (wonZ S), (wonZ S), X.li, X.rr, X.rn, X.dr) : ModN) K) rfl ?_
  refine ev_if_ne_n (tgt := 43) (by decide) dX7_blocks_36 (by decide) (fun h36 => ?_) (fun h36 => (by exfalso; omega))
  refine ev_b bX7_blocks_43_44 (lv' := [(3, .int (zI (-9))), (0, .ref 0), (1, .int (nI (0))), (2, .int (nI (1)))]) (st' := [.int (zI (-9))]) (w2 := modW 0 S ((X.rf, wo, ta, (owF S), 0, X.sh, X.lt, X.ty, X.pl, X.nu, X.od, X.tt, X.oo, X.on, (wonZ S), (wonZ S), X.li, X.rr, X.rn, X.dr) : ModN) K) rfl ?_
  refine ev_if_ge_z (tgt := 51) (by constructor <;> omega) dX7_blocks_44 (by decide) (fun h44 => (by exfalso; omega)) (fun h44 => ?_)
  refine ev_b bX7_blocks_47_56 (lv' := [(3, .int (zI (-9))), (0, .ref 0), (1, .int (nI (0))), (2, .int (nI (1)))]) (st' := [.int (nI (0))]) (w2 := modW 0 S ((X.rf, wo, ta, (owF S), 0, X.sh, X.lt, X.ty, X.pl, X.nu, X.od, X.tt, X.oo, X.on, (wonZ S), (wonZ S), X.li, X.rr, X.rn, X.dr) : ModN) K) rfl ?_
  exact ev_iret dX7_blocks_56 rfl mod_le (Nat.le_refl _) (Nat.le_refl _) ⟨rfl, _, rfl, mok_fresh hM.1 rfl hT, rfl, rfl, rfl, rfl, rfl⟩
theorem bX7_blocks_51_53 {l : Launch} {E : XE} : Snd l E mX7_blocks 51 53 (xs [x_aload 0, x_iload 3]) := Snd.cons (snd_aload_n (i := 0) dX7_blocks_51 rfl) (Snd.cons (snd_iload_n (i := 3) dX7_blocks_52 rfl) Snd.nil)
set_option maxHeartbeats 4000000 in
set_option maxRecDepth 100000 in
theorem q_blocks_w0_1s {l : Launch} {E : XE} (S : SaleN) (X : ModN) (K : Option (Nat → Nat)) (n g : Nat) (hS : SaleOK S) (hM : MOK S X) (hn : LiftsTo S n) (hg : g < 32) (hb : (blkS S (wonZ S)).2 = ((g : Nat) : Int)) : MetE l E mX7_blocks (8) 0 0 [.ref 0, .int (nI (0)), .int (nI (1))] (modW 0 S X K) (MP S K (X.lt) (X.ty) (X.rr) (X.rn) (X.rf) (some (.int (zI (excS S (wonZ S) g))))) := by
  refine MetE.of (by decide +kernel) (Nat.le_of_ble_eq_true rfl) ?_
  have hca := hS.1
  have hpw := pow_ca hS
  have hac := ac_lt hS
  have hshl := shl_le hS
  
  refine ev_eq (lv' := [(0, .ref 0), (1, .int (nI (0))), (2, .int (nI (1)))]) (st' := []) (w' := modW 0 S X K) rfl rfl rfl ?_
  refine ev_b bX7_blocks_0_3 (lv' := [(0, .ref 0), (1, .int (nI (0))), (2, .int (nI (1)))]) (st' := [.int (nI (2)), .int (nI (0)), .int (nI (0))]) (w2 := modW 0 S X K) rfl ?_
  refine ev_callS (Yc := mX7_isIn) [] dX7_blocks_3 tw_1036 kX7_isIn (m_X7_isIn_n 0 0 2 (by decide) (by decide) (by decide)) rfl (st := []) rfl (by decide) rfl (by decide) (Nat.le_of_ble_eq_true rfl) (Nat.le_refl _) (Nat.le_refl _) (fun r w' h => by obtain ⟨-, rfl⟩ := h; exact Nat.le_of_ble_eq_true rfl) ?_
  rintro _ _ ⟨rfl, rfl⟩
  refine ev_eq (lv' := [(0, .ref 0), (1, .int (nI (0))), (2, .int (nI (1)))]) (st' := [.int (nI (b01 (0 ≤ 0 ∧ 0 ≤ 2)))]) (w' := modW 0 S X K) rfl rfl rfl ?_
  refine ev_ifeq_b (tgt := 18) dX7_blocks_6 (by decide) (fun h6 => (by exfalso; omega)) (fun h6 => ?_)
  refine ev_b bX7_blocks_9_12 (lv' := [(0, .ref 0), (1, .int (nI (0))), (2, .int (nI (1)))]) (st' := [.int (nI (1)), .int (nI (0)), .int (nI (1))]) (w2 := modW 0 S X K) rfl ?_
  refine ev_callS (Yc := mX7_isIn) [] dX7_blocks_12 tw_1036 kX7_isIn (m_X7_isIn_n 1 0 1 (by decide) (by decide) (by decide)) rfl (st := []) rfl (by decide) rfl (by decide) (Nat.le_of_ble_eq_true rfl) (Nat.le_refl _) (Nat.le_refl _) (fun r w' h => by obtain ⟨-, rfl⟩ := h; exact Nat.le_of_ble_eq_true rfl) ?_
  rintro _ _ ⟨rfl, rfl⟩
  refine ev_eq (lv' := [(0, .ref 0), (1, .int (nI (0))), (2, .int (nI (1)))]) (st' := [.int (nI (b01 (0 ≤ 1 ∧ 1 ≤ 1)))]) (w' := modW 0 S X K) rfl rfl rfl ?_
  refine ev_ifne_b (tgt := 25) dX7_blocks_15 (by decide) (fun h15 => ?_) (fun h15 => (by exfalso; omega))
  refine ev_b bX7_blocks_25_27 (lv' := [(0, .ref 0), (1, .int (nI (0))), (2, .int (nI (1)))]) (st' := [.int (nI (0)), .ref 0]) (w2 := modW 0 S X K) rfl ?_
  refine ev_callM (Yc := mX7_finds) (st := []) dX7_blocks_27 tw_1216 kX7_finds (m_X7_finds_0 S X K hS hM) rfl rfl rfl rfl (by decide) (Nat.le_of_ble_eq_true rfl) (Nat.le_refl _) (Nat.le_refl _) (fun r w' h => by obtain ⟨-, wo, ta, rfl, -⟩ := h; exact mod_eq) ?_
  rintro _ _ ⟨rfl, wo, ta, rfl, hT⟩
  refine ev_eq (lv' := [(0, .ref 0), (1, .int (nI (0))), (2, .int (nI (1)))]) (st' := []) (w' := modW 0 S ((X.rf, wo, ta, (owF S), 0, X.sh, X.lt, X.ty, X.pl, X.nu, X.od, X.tt, X.oo, X.on, (wonZ S), (wonZ S), X.li, X.rr, X.rn, X.dr) : ModN) K) rfl rfl rfl ?_
  refine ev_b bX7_blocks_30_31 (lv' := [(0, .ref 0), (1, .int (nI (0))), (2, .int (nI (1)))]) (st' := [.ref 0]) (w2 := modW 0 S ((X.rf, wo, ta, (owF S), 0, X.sh, X.lt, X.ty, X.pl, X.nu, X.od, X.tt, X.oo, X.on, (wonZ S), (wonZ S), X.li, X.rr, X.rn, X.dr) : ModN) K) rfl ?_
  refine ev_callM (Yc := mX7_blocker) (st := []) dX7_blocks_31 tw_1228 kX7_blocker (m_X7_blocker S ((X.rf, wo, ta, (owF S), 0, X.sh, X.lt, X.ty, X.pl, X.nu, X.od, X.tt, X.oo, X.on, (wonZ S), (wonZ S), X.li, X.rr, X.rn, X.dr) : ModN) K hS rfl hT rfl (wonZ_b hS)) rfl rfl rfl rfl (by decide) (Nat.le_of_ble_eq_true rfl) (Nat.le_refl _) (Nat.le_refl _) (fun r w' h => by obtain ⟨-, rfl⟩ := h; exact mod_eq) ?_
  rintro _ _ ⟨rfl, rfl⟩
  refine ev_eq (lv' := [(0, .ref 0), (1, .int (nI (0))), (2, .int (nI (1)))]) (st' := [.int (zI ((blkS S (wonZ S)).2))]) (w' := modW 0 S ((X.rf, wo, ta, (owF S), 0, X.sh, X.lt, X.ty, X.pl, X.nu, X.od, X.tt, X.oo, X.on, (wonZ S), (wonZ S), X.li, X.rr, X.rn, X.dr) : ModN) K) rfl rfl rfl ?_
  refine ev_top (y := (nI (g))) (by rw [show (blkS S (wonZ S)).2 = ((g : Nat) : Int) from by exact hb]; exact zI_nat _) ?_
  refine ev_b bX7_blocks_34_36 (lv' := [(3, .int (nI (g))), (0, .ref 0), (1, .int (nI (0))), (2, .int (nI (1)))]) (st' := [.int (nI (1))]) (w2 := modW 0 S ((X.rf, wo, ta, (owF S), 0, X.sh, X.lt, X.ty, X.pl, X.nu, X.od, X.tt, X.oo, X.on, (wonZ S), (wonZ S), X.li, X.rr, X.rn, X.dr) : ModN) K) rfl ?_
  refine ev_if_ne_n (tgt := 43) (by decide) dX7_blocks_36 (by decide) (fun h36 => ?_) (fun h36 => (by exfalso; omega))
  refine ev_b bX7_blocks_43_44 (lv' := [(3, .int (nI (g))), (0, .ref 0), (1, .int (nI (0))), (2, .int (nI (1)))]) (st' := [.int (nI (g))]) (w2 := modW 0 S ((X.rf, wo, ta, (owF S), 0, X.sh, X.lt, X.ty, X.pl, X.nu, X.od, X.tt, X.oo, X.on, (wonZ S), (wonZ S), X.li, X.rr, X.rn, X.dr) : ModN) K) rfl ?_
  refine ev_if_ge_n (tgt := 51) (by omega) dX7_blocks_44 (by decide) (fun h44 => ?_) (fun h44 => (by exfalso; omega))
  refine ev_b bX7_blocks_51_53 (lv' := [(3, .int (nI (g))), (0, .ref 0), (1, .int (nI (0))), (2, .int (nI (1)))]) (st' := [.int (nI (g)), .ref 0]) (w2 := modW 0 S ((X.rf, wo, ta, (owF S), 0, X.sh, X.lt, X.ty, X.pl, X.nu, X.od, X.tt, X.oo, X.on, (wonZ S), (wonZ S), X.li, X.rr, X.rn, X.dr) : ModN) K) rfl ?_
  refine ev_callM (Yc := mX7_blocksBy) (st := []) dX7_blocks_53 tw_1232 kX7_blocksBy (m_X7_blocksBy S ((X.rf, wo, ta, (owF S), 0, X.sh, X.lt, X.ty, X.pl, X.nu, X.od, X.tt, X.oo, X.on, (wonZ S), (wonZ S), X.li, X.rr, X.rn, X.dr) : ModN) K g hS hg rfl hT rfl) rfl rfl rfl rfl (by decide) (Nat.le_of_ble_eq_true rfl) (Nat.le_refl _) (Nat.le_refl _) (fun r w' h => by obtain ⟨-, rfl⟩ := h; exact mod_eq) ?_
  rintro _ _ ⟨rfl, rfl⟩
  refine ev_eq (lv' := [(3, .int (nI (g))), (0, .ref 0), (1, .int (nI (0))), (2, .int (nI (1)))]) (st' := [.int (zI (excS S (wonZ S) g))]) (w' := modW 0 S ((X.rf, wo, ta, (owF S), 0, X.sh, X.lt, X.ty, X.pl, X.nu, X.od, X.tt, X.oo, X.on, (wonZ S), (wonZ S), X.li, X.rr, X.rn, X.dr) : ModN) K) rfl rfl rfl ?_
  exact ev_iret dX7_blocks_56 rfl mod_le (Nat.le_refl _) (Nat.le_refl _) ⟨rfl, _, rfl, mok_fresh hM.1 rfl hT, rfl, rfl, rfl, rfl, rfl⟩
set_option maxHeartbeats 4000000 in
set_option maxRecDepth 100000 in
theorem q_blocks_w1_0 {l : Launch} {E : XE} (S : SaleN) (X : ModN) (K : Option (Nat → Nat)) (n : Nat) (hS : SaleOK S) (hM : MOK S X) (hn : LiftsTo S n) : MetE l E mX7_blocks (8) 0 0 [.ref 0, .int (nI (1)), .int (nI (0))] (modW 0 S X K) (MP S K (X.lt) (X.ty) (X.rr) (X.rn) (X.rf) (some (.int (zI ((blkS S (paidZ S)).2))))) := by
  refine MetE.of (by decide +kernel) (Nat.le_of_ble_eq_true rfl) ?_
  have hca := hS.1
  have hpw := pow_ca hS
  have hac := ac_lt hS
  have hshl := shl_le hS
  
  refine ev_eq (lv' := [(0, .ref 0), (1, .int (nI (1))), (2, .int (nI (0)))]) (st' := []) (w' := modW 0 S X K) rfl rfl rfl ?_
  refine ev_b bX7_blocks_0_3 (lv' := [(0, .ref 0), (1, .int (nI (1))), (2, .int (nI (0)))]) (st' := [.int (nI (2)), .int (nI (0)), .int (nI (1))]) (w2 := modW 0 S X K) rfl ?_
  refine ev_callS (Yc := mX7_isIn) [] dX7_blocks_3 tw_1036 kX7_isIn (m_X7_isIn_n 1 0 2 (by decide) (by decide) (by decide)) rfl (st := []) rfl (by decide) rfl (by decide) (Nat.le_of_ble_eq_true rfl) (Nat.le_refl _) (Nat.le_refl _) (fun r w' h => by obtain ⟨-, rfl⟩ := h; exact Nat.le_of_ble_eq_true rfl) ?_
  rintro _ _ ⟨rfl, rfl⟩
  refine ev_eq (lv' := [(0, .ref 0), (1, .int (nI (1))), (2, .int (nI (0)))]) (st' := [.int (nI (b01 (0 ≤ 1 ∧ 1 ≤ 2)))]) (w' := modW 0 S X K) rfl rfl rfl ?_
  refine ev_ifeq_b (tgt := 18) dX7_blocks_6 (by decide) (fun h6 => (by exfalso; omega)) (fun h6 => ?_)
  refine ev_b bX7_blocks_9_12 (lv' := [(0, .ref 0), (1, .int (nI (1))), (2, .int (nI (0)))]) (st' := [.int (nI (1)), .int (nI (0)), .int (nI (0))]) (w2 := modW 0 S X K) rfl ?_
  refine ev_callS (Yc := mX7_isIn) [] dX7_blocks_12 tw_1036 kX7_isIn (m_X7_isIn_n 0 0 1 (by decide) (by decide) (by decide)) rfl (st := []) rfl (by decide) rfl (by decide) (Nat.le_of_ble_eq_true rfl) (Nat.le_refl _) (Nat.le_refl _) (fun r w' h => by obtain ⟨-, rfl⟩ := h; exact Nat.le_of_ble_eq_true rfl) ?_
  rintro _ _ ⟨rfl, rfl⟩
  refine ev_eq (lv' := [(0, .ref 0), (1, .int (nI (1))), (2, .int (nI (0)))]) (st' := [.int (nI (b01 (0 ≤ 0 ∧ 0 ≤ 1)))]) (w' := modW 0 S X K) rfl rfl rfl ?_
  refine ev_ifne_b (tgt := 25) dX7_blocks_15 (by decide) (fun h15 => ?_) (fun h15 => (by exfalso; omega))
  refine ev_b bX7_blocks_25_27 (lv' := [(0, .ref 0), (1, .int (nI (1))), (2, .int (nI (0)))]) (st' := [.int (nI (1)), .ref 0]) (w2 := modW 0 S X K) rfl ?_
  refine ev_callM (Yc := mX7_finds) (st := []) dX7_blocks_27 tw_1216 kX7_finds (m_X7_finds_1 S X K hS hM) rfl rfl rfl rfl (by decide) (Nat.le_of_ble_eq_true rfl) (Nat.le_refl _) (Nat.le_refl _) (fun r w' h => by obtain ⟨-, wo, ta, rfl, -⟩ := h; exact mod_eq) ?_
  rintro _ _ ⟨rfl, wo, ta, rfl, hT⟩
  refine ev_eq (lv' := [(0, .ref 0), (1, .int (nI (1))), (2, .int (nI (0)))]) (st' := []) (w' := modW 0 S ((X.rf, wo, ta, (owF S), 0, X.sh, X.lt, X.ty, X.pl, X.nu, X.od, X.tt, X.oo, X.on, (wonZ S), (paidZ S), X.li, X.rr, X.rn, X.dr) : ModN) K) rfl rfl rfl ?_
  refine ev_b bX7_blocks_30_31 (lv' := [(0, .ref 0), (1, .int (nI (1))), (2, .int (nI (0)))]) (st' := [.ref 0]) (w2 := modW 0 S ((X.rf, wo, ta, (owF S), 0, X.sh, X.lt, X.ty, X.pl, X.nu, X.od, X.tt, X.oo, X.on, (wonZ S), (paidZ S), X.li, X.rr, X.rn, X.dr) : ModN) K) rfl ?_
  refine ev_callM (Yc := mX7_blocker) (st := []) dX7_blocks_31 tw_1228 kX7_blocker (m_X7_blocker S ((X.rf, wo, ta, (owF S), 0, X.sh, X.lt, X.ty, X.pl, X.nu, X.od, X.tt, X.oo, X.on, (wonZ S), (paidZ S), X.li, X.rr, X.rn, X.dr) : ModN) K hS rfl hT rfl (paid_b hS)) rfl rfl rfl rfl (by decide) (Nat.le_of_ble_eq_true rfl) (Nat.le_refl _) (Nat.le_refl _) (fun r w' h => by obtain ⟨-, rfl⟩ := h; exact mod_eq) ?_
  rintro _ _ ⟨rfl, rfl⟩
  refine ev_eq (lv' := [(0, .ref 0), (1, .int (nI (1))), (2, .int (nI (0)))]) (st' := [.int (zI ((blkS S (paidZ S)).2))]) (w' := modW 0 S ((X.rf, wo, ta, (owF S), 0, X.sh, X.lt, X.ty, X.pl, X.nu, X.od, X.tt, X.oo, X.on, (wonZ S), (paidZ S), X.li, X.rr, X.rn, X.dr) : ModN) K) rfl rfl rfl ?_
  refine ev_b bX7_blocks_34_36 (lv' := [(3, .int (zI ((blkS S (paidZ S)).2))), (0, .ref 0), (1, .int (nI (1))), (2, .int (nI (0)))]) (st' := [.int (nI (0))]) (w2 := modW 0 S ((X.rf, wo, ta, (owF S), 0, X.sh, X.lt, X.ty, X.pl, X.nu, X.od, X.tt, X.oo, X.on, (wonZ S), (paidZ S), X.li, X.rr, X.rn, X.dr) : ModN) K) rfl ?_
  refine ev_if_ne_n (tgt := 43) (by decide) dX7_blocks_36 (by decide) (fun h36 => (by exfalso; omega)) (fun h36 => ?_)
  refine ev_b bX7_blocks_39_56 (lv' := [(3, .int (zI ((blkS S (paidZ S)).2))), (0, .ref 0), (1, .int (nI (1))), (2, .int (nI (0)))]) (st' := [.int (zI ((blkS S (paidZ S)).2))]) (w2 := modW 0 S ((X.rf, wo, ta, (owF S), 0, X.sh, X.lt, X.ty, X.pl, X.nu, X.od, X.tt, X.oo, X.on, (wonZ S), (paidZ S), X.li, X.rr, X.rn, X.dr) : ModN) K) rfl ?_
  exact ev_iret dX7_blocks_56 rfl mod_le (Nat.le_refl _) (Nat.le_refl _) ⟨rfl, _, rfl, mok_fresh hM.1 rfl hT, rfl, rfl, rfl, rfl, rfl⟩
set_option maxHeartbeats 4000000 in
set_option maxRecDepth 100000 in
theorem q_blocks_w1_1n {l : Launch} {E : XE} (S : SaleN) (X : ModN) (K : Option (Nat → Nat)) (n : Nat) (hS : SaleOK S) (hM : MOK S X) (hn : LiftsTo S n) (hb : (blkS S (paidZ S)).2 = -9) : MetE l E mX7_blocks (8) 0 0 [.ref 0, .int (nI (1)), .int (nI (1))] (modW 0 S X K) (MP S K (X.lt) (X.ty) (X.rr) (X.rn) (X.rf) (some (.int (nI (0))))) := by
  refine MetE.of (by decide +kernel) (Nat.le_of_ble_eq_true rfl) ?_
  have hca := hS.1
  have hpw := pow_ca hS
  have hac := ac_lt hS
  have hshl := shl_le hS
  
  refine ev_eq (lv' := [(0, .ref 0), (1, .int (nI (1))), (2, .int (nI (1)))]) (st' := []) (w' := modW 0 S X K) rfl rfl rfl ?_
  refine ev_b bX7_blocks_0_3 (lv' := [(0, .ref 0), (1, .int (nI (1))), (2, .int (nI (1)))]) (st' := [.int (nI (2)), .int (nI (0)), .int (nI (1))]) (w2 := modW 0 S X K) rfl ?_
  refine ev_callS (Yc := mX7_isIn) [] dX7_blocks_3 tw_1036 kX7_isIn (m_X7_isIn_n 1 0 2 (by decide) (by decide) (by decide)) rfl (st := []) rfl (by decide) rfl (by decide) (Nat.le_of_ble_eq_true rfl) (Nat.le_refl _) (Nat.le_refl _) (fun r w' h => by obtain ⟨-, rfl⟩ := h; exact Nat.le_of_ble_eq_true rfl) ?_
  rintro _ _ ⟨rfl, rfl⟩
  refine ev_eq (lv' := [(0, .ref 0), (1, .int (nI (1))), (2, .int (nI (1)))]) (st' := [.int (nI (b01 (0 ≤ 1 ∧ 1 ≤ 2)))]) (w' := modW 0 S X K) rfl rfl rfl ?_
  refine ev_ifeq_b (tgt := 18) dX7_blocks_6 (by decide) (fun h6 => (by exfalso; omega)) (fun h6 => ?_)
  refine ev_b bX7_blocks_9_12 (lv' := [(0, .ref 0), (1, .int (nI (1))), (2, .int (nI (1)))]) (st' := [.int (nI (1)), .int (nI (0)), .int (nI (1))]) (w2 := modW 0 S X K) rfl ?_
  refine ev_callS (Yc := mX7_isIn) [] dX7_blocks_12 tw_1036 kX7_isIn (m_X7_isIn_n 1 0 1 (by decide) (by decide) (by decide)) rfl (st := []) rfl (by decide) rfl (by decide) (Nat.le_of_ble_eq_true rfl) (Nat.le_refl _) (Nat.le_refl _) (fun r w' h => by obtain ⟨-, rfl⟩ := h; exact Nat.le_of_ble_eq_true rfl) ?_
  rintro _ _ ⟨rfl, rfl⟩
  refine ev_eq (lv' := [(0, .ref 0), (1, .int (nI (1))), (2, .int (nI (1)))]) (st' := [.int (nI (b01 (0 ≤ 1 ∧ 1 ≤ 1)))]) (w' := modW 0 S X K) rfl rfl rfl ?_
  refine ev_ifne_b (tgt := 25) dX7_blocks_15 (by decide) (fun h15 => ?_) (fun h15 => (by exfalso; omega))
  refine ev_b bX7_blocks_25_27 (lv' := [(0, .ref 0), (1, .int (nI (1))), (2, .int (nI (1)))]) (st' := [.int (nI (1)), .ref 0]) (w2 := modW 0 S X K) rfl ?_
  refine ev_callM (Yc := mX7_finds) (st := []) dX7_blocks_27 tw_1216 kX7_finds (m_X7_finds_1 S X K hS hM) rfl rfl rfl rfl (by decide) (Nat.le_of_ble_eq_true rfl) (Nat.le_refl _) (Nat.le_refl _) (fun r w' h => by obtain ⟨-, wo, ta, rfl, -⟩ := h; exact mod_eq) ?_
  rintro _ _ ⟨rfl, wo, ta, rfl, hT⟩
  refine ev_eq (lv' := [(0, .ref 0), (1, .int (nI (1))), (2, .int (nI (1)))]) (st' := []) (w' := modW 0 S ((X.rf, wo, ta, (owF S), 0, X.sh, X.lt, X.ty, X.pl, X.nu, X.od, X.tt, X.oo, X.on, (wonZ S), (paidZ S), X.li, X.rr, X.rn, X.dr) : ModN) K) rfl rfl rfl ?_
  refine ev_b bX7_blocks_30_31 (lv' := [(0, .ref 0), (1, .int (nI (1))), (2, .int (nI (1)))]) (st' := [.ref 0]) (w2 := modW 0 S ((X.rf, wo, ta, (owF S), 0, X.sh, X.lt, X.ty, X.pl, X.nu, X.od, X.tt, X.oo, X.on, (wonZ S), (paidZ S), X.li, X.rr, X.rn, X.dr) : ModN) K) rfl ?_
  refine ev_callM (Yc := mX7_blocker) (st := []) dX7_blocks_31 tw_1228 kX7_blocker (m_X7_blocker S ((X.rf, wo, ta, (owF S), 0, X.sh, X.lt, X.ty, X.pl, X.nu, X.od, X.tt, X.oo, X.on, (wonZ S), (paidZ S), X.li, X.rr, X.rn, X.dr) : ModN) K hS rfl hT rfl (paid_b hS)) rfl rfl rfl rfl (by decide) (Nat.le_of_ble_eq_true rfl) (Nat.le_refl _) (Nat.le_refl _) (fun r w' h => by obtain ⟨-, rfl⟩ := h; exact mod_eq) ?_
  rintro _ _ ⟨rfl, rfl⟩
  refine ev_eq (lv' := [(0, .ref 0), (1, .int (nI (1))), (2, .int (nI (1)))]) (st' := [.int (zI ((blkS S (paidZ S)).2))]) (w' := modW 0 S ((X.rf, wo, ta, (owF S), 0, X.sh, X.lt, X.ty, X.pl, X.nu, X.od, X.tt, X.oo, X.on, (wonZ S), (paidZ S), X.li, X.rr, X.rn, X.dr) : ModN) K) rfl rfl rfl ?_
  refine ev_top (y := (zI (-9))) (congrArg zI (show (blkS S (paidZ S)).2 = -9 from by exact hb)) ?_
  refine ev_b bX7_blocks_34_36 (lv' := [(3, .int (zI (-9))), (0, .ref 0), (1, .int (nI (1))), (2, .int (nI (1)))]) (st' := [.int (nI (1))]) (w2 := modW 0 S ((X.rf, wo, ta, (owF S), 0, X.sh, X.lt, X.ty, X.pl, X.nu, X.od, X.tt, X.oo, X.on, (wonZ S), (paidZ S), X.li, X.rr, X.rn, X.dr) : ModN) K) rfl ?_
  refine ev_if_ne_n (tgt := 43) (by decide) dX7_blocks_36 (by decide) (fun h36 => ?_) (fun h36 => (by exfalso; omega))
  refine ev_b bX7_blocks_43_44 (lv' := [(3, .int (zI (-9))), (0, .ref 0), (1, .int (nI (1))), (2, .int (nI (1)))]) (st' := [.int (zI (-9))]) (w2 := modW 0 S ((X.rf, wo, ta, (owF S), 0, X.sh, X.lt, X.ty, X.pl, X.nu, X.od, X.tt, X.oo, X.on, (wonZ S), (paidZ S), X.li, X.rr, X.rn, X.dr) : ModN) K) rfl ?_
  refine ev_if_ge_z (tgt := 51) (by constructor <;> omega) dX7_blocks_44 (by decide) (fun h44 => (by exfalso; omega)) (fun h44 => ?_)
  refine ev_b bX7_blocks_47_56 (lv' := [(3, .int (zI (-9))), (0, .ref 0), (1, .int (nI (1))), (2, .int (nI (1)))]) (st' := [.int (nI (0))]) (w2 := modW 0 S ((X.rf, wo, ta, (owF S), 0, X.sh, X.lt, X.ty, X.pl, X.nu, X.od, X.tt, X.oo, X.on, (wonZ S), (paidZ S), X.li, X.rr, X.rn, X.dr) : ModN) K) rfl ?_
  exact ev_iret dX7_blocks_56 rfl mod_le (Nat.le_refl _) (Nat.le_refl _) ⟨rfl, _, rfl, mok_fresh hM.1 rfl hT, rfl, rfl, rfl, rfl, rfl⟩
set_option maxHeartbeats 4000000 in
set_option maxRecDepth 100000 in
theorem q_blocks_w1_1s {l : Launch} {E : XE} (S : SaleN) (X : ModN) (K : Option (Nat → Nat)) (n g : Nat) (hS : SaleOK S) (hM : MOK S X) (hn : LiftsTo S n) (hg : g < 32) (hb : (blkS S (paidZ S)).2 = ((g : Nat) : Int)) : MetE l E mX7_blocks (8) 0 0 [.ref 0, .int (nI (1)), .int (nI (1))] (modW 0 S X K) (MP S K (X.lt) (X.ty) (X.rr) (X.rn) (X.rf) (some (.int (zI (excS S (paidZ S) g))))) := by
  refine MetE.of (by decide +kernel) (Nat.le_of_ble_eq_true rfl) ?_
  have hca := hS.1
  have hpw := pow_ca hS
  have hac := ac_lt hS
  have hshl := shl_le hS
  
  refine ev_eq (lv' := [(0, .ref 0), (1, .int (nI (1))), (2, .int (nI (1)))]) (st' := []) (w' := modW 0 S X K) rfl rfl rfl ?_
  refine ev_b bX7_blocks_0_3 (lv' := [(0, .ref 0), (1, .int (nI (1))), (2, .int (nI (1)))]) (st' := [.int (nI (2)), .int (nI (0)), .int (nI (1))]) (w2 := modW 0 S X K) rfl ?_
  refine ev_callS (Yc := mX7_isIn) [] dX7_blocks_3 tw_1036 kX7_isIn (m_X7_isIn_n 1 0 2 (by decide) (by decide) (by decide)) rfl (st := []) rfl (by decide) rfl (by decide) (Nat.le_of_ble_eq_true rfl) (Nat.le_refl _) (Nat.le_refl _) (fun r w' h => by obtain ⟨-, rfl⟩ := h; exact Nat.le_of_ble_eq_true rfl) ?_
  rintro _ _ ⟨rfl, rfl⟩
  refine ev_eq (lv' := [(0, .ref 0), (1, .int (nI (1))), (2, .int (nI (1)))]) (st' := [.int (nI (b01 (0 ≤ 1 ∧ 1 ≤ 2)))]) (w' := modW 0 S X K) rfl rfl rfl ?_
  refine ev_ifeq_b (tgt := 18) dX7_blocks_6 (by decide) (fun h6 => (by exfalso; omega)) (fun h6 => ?_)
  refine ev_b bX7_blocks_9_12 (lv' := [(0, .ref 0), (1, .int (nI (1))), (2, .int (nI (1)))]) (st' := [.int (nI (1)), .int (nI (0)), .int (nI (1))]) (w2 := modW 0 S X K) rfl ?_
  refine ev_callS (Yc := mX7_isIn) [] dX7_blocks_12 tw_1036 kX7_isIn (m_X7_isIn_n 1 0 1 (by decide) (by decide) (by decide)) rfl (st := []) rfl (by decide) rfl (by decide) (Nat.le_of_ble_eq_true rfl) (Nat.le_refl _) (Nat.le_refl _) (fun r w' h => by obtain ⟨-, rfl⟩ := h; exact Nat.le_of_ble_eq_true rfl) ?_
  rintro _ _ ⟨rfl, rfl⟩
  refine ev_eq (lv' := [(0, .ref 0), (1, .int (nI (1))), (2, .int (nI (1)))]) (st' := [.int (nI (b01 (0 ≤ 1 ∧ 1 ≤ 1)))]) (w' := modW 0 S X K) rfl rfl rfl ?_
  refine ev_ifne_b (tgt := 25) dX7_blocks_15 (by decide) (fun h15 => ?_) (fun h15 => (by exfalso; omega))
  refine ev_b bX7_blocks_25_27 (lv' := [(0, .ref 0), (1, .int (nI (1))), (2, .int (nI (1)))]) (st' := [.int (nI (1)), .ref 0]) (w2 := modW 0 S X K) rfl ?_
  refine ev_callM (Yc := mX7_finds) (st := []) dX7_blocks_27 tw_1216 kX7_finds (m_X7_finds_1 S X K hS hM) rfl rfl rfl rfl (by decide) (Nat.le_of_ble_eq_true rfl) (Nat.le_refl _) (Nat.le_refl _) (fun r w' h => by obtain ⟨-, wo, ta, rfl, -⟩ := h; exact mod_eq) ?_
  rintro _ _ ⟨rfl, wo, ta, rfl, hT⟩
  refine ev_eq (lv' := [(0, .ref 0), (1, .int (nI (1))), (2, .int (nI (1)))]) (st' := []) (w' := modW 0 S ((X.rf, wo, ta, (owF S), 0, X.sh, X.lt, X.ty, X.pl, X.nu, X.od, X.tt, X.oo, X.on, (wonZ S), (paidZ S), X.li, X.rr, X.rn, X.dr) : ModN) K) rfl rfl rfl ?_
  refine ev_b bX7_blocks_30_31 (lv' := [(0, .ref 0), (1, .int (nI (1))), (2, .int (nI (1)))]) (st' := [.ref 0]) (w2 := modW 0 S ((X.rf, wo, ta, (owF S), 0, X.sh, X.lt, X.ty, X.pl, X.nu, X.od, X.tt, X.oo, X.on, (wonZ S), (paidZ S), X.li, X.rr, X.rn, X.dr) : ModN) K) rfl ?_
  refine ev_callM (Yc := mX7_blocker) (st := []) dX7_blocks_31 tw_1228 kX7_blocker (m_X7_blocker S ((X.rf, wo, ta, (owF S), 0, X.sh, X.lt, X.ty, X.pl, X.nu, X.od, X.tt, X.oo, X.on, (wonZ S), (paidZ S), X.li, X.rr, X.rn, X.dr) : ModN) K hS rfl hT rfl (paid_b hS)) rfl rfl rfl rfl (by decide) (Nat.le_of_ble_eq_true rfl) (Nat.le_refl _) (Nat.le_refl _) (fun r w' h => by obtain ⟨-, rfl⟩ := h; exact mod_eq) ?_
  rintro _ _ ⟨rfl, rfl⟩
  refine ev_eq (lv' := [(0, .ref 0), (1, .int (nI (1))), (2, .int (nI (1)))]) (st' := [.int (zI ((blkS S (paidZ S)).2))]) (w' := modW 0 S ((X.rf, wo, ta, (owF S), 0, X.sh, X.lt, X.ty, X.pl, X.nu, X.od, X.tt, X.oo, X.on, (wonZ S), (paidZ S), X.li, X.rr, X.rn, X.dr) : ModN) K) rfl rfl rfl ?_
  refine ev_top (y := (nI (g))) (by rw [show (blkS S (paidZ S)).2 = ((g : Nat) : Int) from by exact hb]; exact zI_nat _) ?_
  refine ev_b bX7_blocks_34_36 (lv' := [(3, .int (nI (g))), (0, .ref 0), (1, .int (nI (1))), (2, .int (nI (1)))]) (st' := [.int (nI (1))]) (w2 := modW 0 S ((X.rf, wo, ta, (owF S), 0, X.sh, X.lt, X.ty, X.pl, X.nu, X.od, X.tt, X.oo, X.on, (wonZ S), (paidZ S), X.li, X.rr, X.rn, X.dr) : ModN) K) rfl ?_
  refine ev_if_ne_n (tgt := 43) (by decide) dX7_blocks_36 (by decide) (fun h36 => ?_) (fun h36 => (by exfalso; omega))
  refine ev_b bX7_blocks_43_44 (lv' := [(3, .int (nI (g))), (0, .ref 0), (1, .int (nI (1))), (2, .int (nI (1)))]) (st' := [.int (nI (g))]) (w2 := modW 0 S ((X.rf, wo, ta, (owF S), 0, X.sh, X.lt, X.ty, X.pl, X.nu, X.od, X.tt, X.oo, X.on, (wonZ S), (paidZ S), X.li, X.rr, X.rn, X.dr) : ModN) K) rfl ?_
  refine ev_if_ge_n (tgt := 51) (by omega) dX7_blocks_44 (by decide) (fun h44 => ?_) (fun h44 => (by exfalso; omega))
  refine ev_b bX7_blocks_51_53 (lv' := [(3, .int (nI (g))), (0, .ref 0), (1, .int (nI (1))), (2, .int (nI (1)))]) (st' := [.int (nI (g)), .ref 0]) (w2 := modW 0 S ((X.rf, wo, ta, (owF S), 0, X.sh, X.lt, X.ty, X.pl, X.nu, X.od, X.tt, X.oo, X.on, (wonZ S), (paidZ S), X.li, X.rr, X.rn, X.dr) : ModN) K) rfl ?_
  refine ev_callM (Yc := mX7_blocksBy) (st := []) dX7_blocks_53 tw_1232 kX7_blocksBy (m_X7_blocksBy S ((X.rf, wo, ta, (owF S), 0, X.sh, X.lt, X.ty, X.pl, X.nu, X.od, X.tt, X.oo, X.on, (wonZ S), (paidZ S), X.li, X.rr, X.rn, X.dr) : ModN) K g hS hg rfl hT rfl) rfl rfl rfl rfl (by decide) (Nat.le_of_ble_eq_true rfl) (Nat.le_refl _) (Nat.le_refl _) (fun r w' h => by obtain ⟨-, rfl⟩ := h; exact mod_eq) ?_
  rintro _ _ ⟨rfl, rfl⟩
  refine ev_eq (lv' := [(3, .int (nI (g))), (0, .ref 0), (1, .int (nI (1))), (2, .int (nI (1)))]) (st' := [.int (zI (excS S (paidZ S) g))]) (w' := modW 0 S ((X.rf, wo, ta, (owF S), 0, X.sh, X.lt, X.ty, X.pl, X.nu, X.od, X.tt, X.oo, X.on, (wonZ S), (paidZ S), X.li, X.rr, X.rn, X.dr) : ModN) K) rfl rfl rfl ?_
  exact ev_iret dX7_blocks_56 rfl mod_le (Nat.le_refl _) (Nat.le_refl _) ⟨rfl, _, rfl, mok_fresh hM.1 rfl hT, rfl, rfl, rfl, rfl, rfl⟩
set_option maxHeartbeats 4000000 in
set_option maxRecDepth 100000 in
theorem q_blocks_w2_0 {l : Launch} {E : XE} (S : SaleN) (X : ModN) (K : Option (Nat → Nat)) (n : Nat) (hS : SaleOK S) (hM : MOK S X) (hn : LiftsTo S n) : MetE l E mX7_blocks (9) 0 0 [.ref 0, .int (nI (2)), .int (nI (0))] (modW 0 S X K) (MP S K (X.lt) (X.ty) (X.rr) (X.rn) (X.rf) (some (.int (zI ((blkS S (itS S n)).2))))) := by
  refine MetE.of (by decide +kernel) (Nat.le_of_ble_eq_true rfl) ?_
  have hca := hS.1
  have hpw := pow_ca hS
  have hac := ac_lt hS
  have hshl := shl_le hS
  
  refine ev_eq (lv' := [(0, .ref 0), (1, .int (nI (2))), (2, .int (nI (0)))]) (st' := []) (w' := modW 0 S X K) rfl rfl rfl ?_
  refine ev_b bX7_blocks_0_3 (lv' := [(0, .ref 0), (1, .int (nI (2))), (2, .int (nI (0)))]) (st' := [.int (nI (2)), .int (nI (0)), .int (nI (2))]) (w2 := modW 0 S X K) rfl ?_
  refine ev_callS (Yc := mX7_isIn) [] dX7_blocks_3 tw_1036 kX7_isIn (m_X7_isIn_n 2 0 2 (by decide) (by decide) (by decide)) rfl (st := []) rfl (by decide) rfl (by decide) (Nat.le_of_ble_eq_true rfl) (Nat.le_refl _) (Nat.le_refl _) (fun r w' h => by obtain ⟨-, rfl⟩ := h; exact Nat.le_of_ble_eq_true rfl) ?_
  rintro _ _ ⟨rfl, rfl⟩
  refine ev_eq (lv' := [(0, .ref 0), (1, .int (nI (2))), (2, .int (nI (0)))]) (st' := [.int (nI (b01 (0 ≤ 2 ∧ 2 ≤ 2)))]) (w' := modW 0 S X K) rfl rfl rfl ?_
  refine ev_ifeq_b (tgt := 18) dX7_blocks_6 (by decide) (fun h6 => (by exfalso; omega)) (fun h6 => ?_)
  refine ev_b bX7_blocks_9_12 (lv' := [(0, .ref 0), (1, .int (nI (2))), (2, .int (nI (0)))]) (st' := [.int (nI (1)), .int (nI (0)), .int (nI (0))]) (w2 := modW 0 S X K) rfl ?_
  refine ev_callS (Yc := mX7_isIn) [] dX7_blocks_12 tw_1036 kX7_isIn (m_X7_isIn_n 0 0 1 (by decide) (by decide) (by decide)) rfl (st := []) rfl (by decide) rfl (by decide) (Nat.le_of_ble_eq_true rfl) (Nat.le_refl _) (Nat.le_refl _) (fun r w' h => by obtain ⟨-, rfl⟩ := h; exact Nat.le_of_ble_eq_true rfl) ?_
  rintro _ _ ⟨rfl, rfl⟩
  refine ev_eq (lv' := [(0, .ref 0), (1, .int (nI (2))), (2, .int (nI (0)))]) (st' := [.int (nI (b01 (0 ≤ 0 ∧ 0 ≤ 1)))]) (w' := modW 0 S X K) rfl rfl rfl ?_
  refine ev_ifne_b (tgt := 25) dX7_blocks_15 (by decide) (fun h15 => ?_) (fun h15 => (by exfalso; omega))
  refine ev_b bX7_blocks_25_27 (lv' := [(0, .ref 0), (1, .int (nI (2))), (2, .int (nI (0)))]) (st' := [.int (nI (2)), .ref 0]) (w2 := modW 0 S X K) rfl ?_
  refine ev_callM (Yc := mX7_finds) (st := []) dX7_blocks_27 tw_1216 kX7_finds (m_X7_finds_2 S X K n hS hM hn) rfl rfl rfl rfl (by decide) (Nat.le_of_ble_eq_true rfl) (Nat.le_refl _) (Nat.le_refl _) (fun r w' h => by obtain ⟨-, wo, ta, rfl, -⟩ := h; exact mod_eq) ?_
  rintro _ _ ⟨rfl, wo, ta, rfl, hT⟩
  refine ev_eq (lv' := [(0, .ref 0), (1, .int (nI (2))), (2, .int (nI (0)))]) (st' := []) (w' := modW 0 S ((X.rf, wo, ta, (owF S), 0, X.sh, X.lt, X.ty, X.pl, X.nu, X.od, X.tt, X.oo, X.on, (wonZ S), (itS S n), n, X.rr, X.rn, X.dr) : ModN) K) rfl rfl rfl ?_
  refine ev_b bX7_blocks_30_31 (lv' := [(0, .ref 0), (1, .int (nI (2))), (2, .int (nI (0)))]) (st' := [.ref 0]) (w2 := modW 0 S ((X.rf, wo, ta, (owF S), 0, X.sh, X.lt, X.ty, X.pl, X.nu, X.od, X.tt, X.oo, X.on, (wonZ S), (itS S n), n, X.rr, X.rn, X.dr) : ModN) K) rfl ?_
  refine ev_callM (Yc := mX7_blocker) (st := []) dX7_blocks_31 tw_1228 kX7_blocker (m_X7_blocker S ((X.rf, wo, ta, (owF S), 0, X.sh, X.lt, X.ty, X.pl, X.nu, X.od, X.tt, X.oo, X.on, (wonZ S), (itS S n), n, X.rr, X.rn, X.dr) : ModN) K hS rfl hT rfl (it_b hS hn)) rfl rfl rfl rfl (by decide) (Nat.le_of_ble_eq_true rfl) (Nat.le_refl _) (Nat.le_refl _) (fun r w' h => by obtain ⟨-, rfl⟩ := h; exact mod_eq) ?_
  rintro _ _ ⟨rfl, rfl⟩
  refine ev_eq (lv' := [(0, .ref 0), (1, .int (nI (2))), (2, .int (nI (0)))]) (st' := [.int (zI ((blkS S (itS S n)).2))]) (w' := modW 0 S ((X.rf, wo, ta, (owF S), 0, X.sh, X.lt, X.ty, X.pl, X.nu, X.od, X.tt, X.oo, X.on, (wonZ S), (itS S n), n, X.rr, X.rn, X.dr) : ModN) K) rfl rfl rfl ?_
  refine ev_b bX7_blocks_34_36 (lv' := [(3, .int (zI ((blkS S (itS S n)).2))), (0, .ref 0), (1, .int (nI (2))), (2, .int (nI (0)))]) (st' := [.int (nI (0))]) (w2 := modW 0 S ((X.rf, wo, ta, (owF S), 0, X.sh, X.lt, X.ty, X.pl, X.nu, X.od, X.tt, X.oo, X.on, (wonZ S), (itS S n), n, X.rr, X.rn, X.dr) : ModN) K) rfl ?_
  refine ev_if_ne_n (tgt := 43) (by decide) dX7_blocks_36 (by decide) (fun h36 => (by exfalso; omega)) (fun h36 => ?_)
  refine ev_b bX7_blocks_39_56 (lv' := [(3, .int (zI ((blkS S (itS S n)).2))), (0, .ref 0), (1, .int (nI (2))), (2, .int (nI (0)))]) (st' := [.int (zI ((blkS S (itS S n)).2))]) (w2 := modW 0 S ((X.rf, wo, ta, (owF S), 0, X.sh, X.lt, X.ty, X.pl, X.nu, X.od, X.tt, X.oo, X.on, (wonZ S), (itS S n), n, X.rr, X.rn, X.dr) : ModN) K) rfl ?_
  exact ev_iret dX7_blocks_56 rfl mod_le (Nat.le_refl _) (Nat.le_refl _) ⟨rfl, _, rfl, mok_fresh hM.1 rfl hT, rfl, rfl, rfl, rfl, rfl⟩
set_option maxHeartbeats 4000000 in
set_option maxRecDepth 100000 in
theorem q_blocks_w2_1n {l : Launch} {E : XE} (S : SaleN) (X : ModN) (K : Option (Nat → Nat)) (n : Nat) (hS : SaleOK S) (hM : MOK S X) (hn : LiftsTo S n) (hb : (blkS S (itS S n)).2 = -9) : MetE l E mX7_blocks (9) 0 0 [.ref 0, .int (nI (2)), .int (nI (1))] (modW 0 S X K) (MP S K (X.lt) (X.ty) (X.rr) (X.rn) (X.rf) (some (.int (nI (0))))) := by
  refine MetE.of (by decide +kernel) (Nat.le_of_ble_eq_true rfl) ?_
  have hca := hS.1
  have hpw := pow_ca hS
  have hac := ac_lt hS
  have hshl := shl_le hS
  
  refine ev_eq (lv' := [(0, .ref 0), (1, .int (nI (2))), (2, .int (nI (1)))]) (st' := []) (w' := modW 0 S X K) rfl rfl rfl ?_
  refine ev_b bX7_blocks_0_3 (lv' := [(0, .ref 0), (1, .int (nI (2))), (2, .int (nI (1)))]) (st' := [.int (nI (2)), .int (nI (0)), .int (nI (2))]) (w2 := modW 0 S X K) rfl ?_
  refine ev_callS (Yc := mX7_isIn) [] dX7_blocks_3 tw_1036 kX7_isIn (m_X7_isIn_n 2 0 2 (by decide) (by decide) (by decide)) rfl (st := []) rfl (by decide) rfl (by decide) (Nat.le_of_ble_eq_true rfl) (Nat.le_refl _) (Nat.le_refl _) (fun r w' h => by obtain ⟨-, rfl⟩ := h; exact Nat.le_of_ble_eq_true rfl) ?_
  rintro _ _ ⟨rfl, rfl⟩
  refine ev_eq (lv' := [(0, .ref 0), (1, .int (nI (2))), (2, .int (nI (1)))]) (st' := [.int (nI (b01 (0 ≤ 2 ∧ 2 ≤ 2)))]) (w' := modW 0 S X K) rfl rfl rfl ?_
  refine ev_ifeq_b (tgt := 18) dX7_blocks_6 (by decide) (fun h6 => (by exfalso; omega)) (fun h6 => ?_)
  refine ev_b bX7_blocks_9_12 (lv' := [(0, .ref 0), (1, .int (nI (2))), (2, .int (nI (1)))]) (st' := [.int (nI (1)), .int (nI (0)), .int (nI (1))]) (w2 := modW 0 S X K) rfl ?_
  refine ev_callS (Yc := mX7_isIn) [] dX7_blocks_12 tw_1036 kX7_isIn (m_X7_isIn_n 1 0 1 (by decide) (by decide) (by decide)) rfl (st := []) rfl (by decide) rfl (by decide) (Nat.le_of_ble_eq_true rfl) (Nat.le_refl _) (Nat.le_refl _) (fun r w' h => by obtain ⟨-, rfl⟩ := h; exact Nat.le_of_ble_eq_true rfl) ?_
  rintro _ _ ⟨rfl, rfl⟩
  refine ev_eq (lv' := [(0, .ref 0), (1, .int (nI (2))), (2, .int (nI (1)))]) (st' := [.int (nI (b01 (0 ≤ 1 ∧ 1 ≤ 1)))]) (w' := modW 0 S X K) rfl rfl rfl ?_
  refine ev_ifne_b (tgt := 25) dX7_blocks_15 (by decide) (fun h15 => ?_) (fun h15 => (by exfalso; omega))
  refine ev_b bX7_blocks_25_27 (lv' := [(0, .ref 0), (1, .int (nI (2))), (2, .int (nI (1)))]) (st' := [.int (nI (2)), .ref 0]) (w2 := modW 0 S X K) rfl ?_
  refine ev_callM (Yc := mX7_finds) (st := []) dX7_blocks_27 tw_1216 kX7_finds (m_X7_finds_2 S X K n hS hM hn) rfl rfl rfl rfl (by decide) (Nat.le_of_ble_eq_true rfl) (Nat.le_refl _) (Nat.le_refl _) (fun r w' h => by obtain ⟨-, wo, ta, rfl, -⟩ := h; exact mod_eq) ?_
  rintro _ _ ⟨rfl, wo, ta, rfl, hT⟩
  refine ev_eq (lv' := [(0, .ref 0), (1, .int (nI (2))), (2, .int (nI (1)))]) (st' := []) (w' := modW 0 S ((X.rf, wo, ta, (owF S), 0, X.sh, X.lt, X.ty, X.pl, X.nu, X.od, X.tt, X.oo, X.on, (wonZ S), (itS S n), n, X.rr, X.rn, X.dr) : ModN) K) rfl rfl rfl ?_
  refine ev_b bX7_blocks_30_31 (lv' := [(0, .ref 0), (1, .int (nI (2))), (2, .int (nI (1)))]) (st' := [.ref 0]) (w2 := modW 0 S ((X.rf, wo, ta, (owF S), 0, X.sh, X.lt, X.ty, X.pl, X.nu, X.od, X.tt, X.oo, X.on, (wonZ S), (itS S n), n, X.rr, X.rn, X.dr) : ModN) K) rfl ?_
  refine ev_callM (Yc := mX7_blocker) (st := []) dX7_blocks_31 tw_1228 kX7_blocker (m_X7_blocker S ((X.rf, wo, ta, (owF S), 0, X.sh, X.lt, X.ty, X.pl, X.nu, X.od, X.tt, X.oo, X.on, (wonZ S), (itS S n), n, X.rr, X.rn, X.dr) : ModN) K hS rfl hT rfl (it_b hS hn)) rfl rfl rfl rfl (by decide) (Nat.le_of_ble_eq_true rfl) (Nat.le_refl _) (Nat.le_refl _) (fun r w' h => by obtain ⟨-, rfl⟩ := h; exact mod_eq) ?_
  rintro _ _ ⟨rfl, rfl⟩
  refine ev_eq (lv' := [(0, .ref 0), (1, .int (nI (2))), (2, .int (nI (1)))]) (st' := [.int (zI ((blkS S (itS S n)).2))]) (w' := modW 0 S ((X.rf, wo, ta, (owF S), 0, X.sh, X.lt, X.ty, X.pl, X.nu, X.od, X.tt, X.oo, X.on, (wonZ S), (itS S n), n, X.rr, X.rn, X.dr) : ModN) K) rfl rfl rfl ?_
  refine ev_top (y := (zI (-9))) (congrArg zI (show (blkS S (itS S n)).2 = -9 from by exact hb)) ?_
  refine ev_b bX7_blocks_34_36 (lv' := [(3, .int (zI (-9))), (0, .ref 0), (1, .int (nI (2))), (2, .int (nI (1)))]) (st' := [.int (nI (1))]) (w2 := modW 0 S ((X.rf, wo, ta, (owF S), 0, X.sh, X.lt, X.ty, X.pl, X.nu, X.od, X.tt, X.oo, X.on, (wonZ S), (itS S n), n, X.rr, X.rn, X.dr) : ModN) K) rfl ?_
  refine ev_if_ne_n (tgt := 43) (by decide) dX7_blocks_36 (by decide) (fun h36 => ?_) (fun h36 => (by exfalso; omega))
  refine ev_b bX7_blocks_43_44 (lv' := [(3, .int (zI (-9))), (0, .ref 0), (1, .int (nI (2))), (2, .int (nI (1)))]) (st' := [.int (zI (-9))]) (w2 := modW 0 S ((X.rf, wo, ta, (owF S), 0, X.sh, X.lt, X.ty, X.pl, X.nu, X.od, X.tt, X.oo, X.on, (wonZ S), (itS S n), n, X.rr, X.rn, X.dr) : ModN) K) rfl ?_
  refine ev_if_ge_z (tgt := 51) (by constructor <;> omega) dX7_blocks_44 (by decide) (fun h44 => (by exfalso; omega)) (fun h44 => ?_)
  refine ev_b bX7_blocks_47_56 (lv' := [(3, .int (zI (-9))), (0, .ref 0), (1, .int (nI (2))), (2, .int (nI (1)))]) (st' := [.int (nI (0))]) (w2 := modW 0 S ((X.rf, wo, ta, (owF S), 0, X.sh, X.lt, X.ty, X.pl, X.nu, X.od, X.tt, X.oo, X.on, (wonZ S), (itS S n), n, X.rr, X.rn, X.dr) : ModN) K) rfl ?_
  exact ev_iret dX7_blocks_56 rfl mod_le (Nat.le_refl _) (Nat.le_refl _) ⟨rfl, _, rfl, mok_fresh hM.1 rfl hT, rfl, rfl, rfl, rfl, rfl⟩
set_option maxHeartbeats 4000000 in
set_option maxRecDepth 100000 in
theorem q_blocks_w2_1s {l : Launch} {E : XE} (S : SaleN) (X : ModN) (K : Option (Nat → Nat)) (n g : Nat) (hS : SaleOK S) (hM : MOK S X) (hn : LiftsTo S n) (hg : g < 32) (hb : (blkS S (itS S n)).2 = ((g : Nat) : Int)) : MetE l E mX7_blocks (9) 0 0 [.ref 0, .int (nI (2)), .int (nI (1))] (modW 0 S X K) (MP S K (X.lt) (X.ty) (X.rr) (X.rn) (X.rf) (some (.int (zI (excS S (itS S n) g))))) := by
  refine MetE.of (by decide +kernel) (Nat.le_of_ble_eq_true rfl) ?_
  have hca := hS.1
  have hpw := pow_ca hS
  have hac := ac_lt hS
  have hshl := shl_le hS
  
  refine ev_eq (lv' := [(0, .ref 0), (1, .int (nI (2))), (2, .int (nI (1)))]) (st' := []) (w' := modW 0 S X K) rfl rfl rfl ?_
  refine ev_b bX7_blocks_0_3 (lv' := [(0, .ref 0), (1, .int (nI (2))), (2, .int (nI (1)))]) (st' := [.int (nI (2)), .int (nI (0)), .int (nI (2))]) (w2 := modW 0 S X K) rfl ?_
  refine ev_callS (Yc := mX7_isIn) [] dX7_blocks_3 tw_1036 kX7_isIn (m_X7_isIn_n 2 0 2 (by decide) (by decide) (by decide)) rfl (st := []) rfl (by decide) rfl (by decide) (Nat.le_of_ble_eq_true rfl) (Nat.le_refl _) (Nat.le_refl _) (fun r w' h => by obtain ⟨-, rfl⟩ := h; exact Nat.le_of_ble_eq_true rfl) ?_
  rintro _ _ ⟨rfl, rfl⟩
  refine ev_eq (lv' := [(0, .ref 0), (1, .int (nI (2))), (2, .int (nI (1)))]) (st' := [.int (nI (b01 (0 ≤ 2 ∧ 2 ≤ 2)))]) (w' := modW 0 S X K) rfl rfl rfl ?_
  refine ev_ifeq_b (tgt := 18) dX7_blocks_6 (by decide) (fun h6 => (by exfalso; omega)) (fun h6 => ?_)
  refine ev_b bX7_blocks_9_12 (lv' := [(0, .ref 0), (1, .int (nI (2))), (2, .int (nI (1)))]) (st' := [.int (nI (1)), .int (nI (0)), .int (nI (1))]) (w2 := modW 0 S X K) rfl ?_
  refine ev_callS (Yc := mX7_isIn) [] dX7_blocks_12 tw_1036 kX7_isIn (m_X7_isIn_n 1 0 1 (by decide) (by decide) (by decide)) rfl (st := []) rfl (by decide) rfl (by decide) (Nat.le_of_ble_eq_true rfl) (Nat.le_refl _) (Nat.le_refl _) (fun r w' h => by obtain ⟨-, rfl⟩ := h; exact Nat.le_of_ble_eq_true rfl) ?_
  rintro _ _ ⟨rfl, rfl⟩
  refine ev_eq (lv' := [(0, .ref 0), (1, .int (nI (2))), (2, .int (nI (1)))]) (st' := [.int (nI (b01 (0 ≤ 1 ∧ 1 ≤ 1)))]) (w' := modW 0 S X K) rfl rfl rfl ?_
  refine ev_ifne_b (tgt := 25) dX7_blocks_15 (by decide) (fun h15 => ?_) (fun h15 => (by exfalso; omega))
  refine ev_b bX7_blocks_25_27 (lv' := [(0, .ref 0), (1, .int (nI (2))), (2, .int (nI (1)))]) (st' := [.int (nI (2)), .ref 0]) (w2 := modW 0 S X K) rfl ?_
  refine ev_callM (Yc := mX7_finds) (st := []) dX7_blocks_27 tw_1216 kX7_finds (m_X7_finds_2 S X K n hS hM hn) rfl rfl rfl rfl (by decide) (Nat.le_of_ble_eq_true rfl) (Nat.le_refl _) (Nat.le_refl _) (fun r w' h => by obtain ⟨-, wo, ta, rfl, -⟩ := h; exact mod_eq) ?_
  rintro _ _ ⟨rfl, wo, ta, rfl, hT⟩
  refine ev_eq (lv' := [(0, .ref 0), (1, .int (nI (2))), (2, .int (nI (1)))]) (st' := []) (w' := modW 0 S ((X.rf, wo, ta, (owF S), 0, X.sh, X.lt, X.ty, X.pl, X.nu, X.od, X.tt, X.oo, X.on, (wonZ S), (itS S n), n, X.rr, X.rn, X.dr) : ModN) K) rfl rfl rfl ?_
  refine ev_b bX7_blocks_30_31 (lv' := [(0, .ref 0), (1, .int (nI (2))), (2, .int (nI (1)))]) (st' := [.ref 0]) (w2 := modW 0 S ((X.rf, wo, ta, (owF S), 0, X.sh, X.lt, X.ty, X.pl, X.nu, X.od, X.tt, X.oo, X.on, (wonZ S), (itS S n), n, X.rr, X.rn, X.dr) : ModN) K) rfl ?_
  refine ev_callM (Yc := mX7_blocker) (st := []) dX7_blocks_31 tw_1228 kX7_blocker (m_X7_blocker S ((X.rf, wo, ta, (owF S), 0, X.sh, X.lt, X.ty, X.pl, X.nu, X.od, X.tt, X.oo, X.on, (wonZ S), (itS S n), n, X.rr, X.rn, X.dr) : ModN) K hS rfl hT rfl (it_b hS hn)) rfl rfl rfl rfl (by decide) (Nat.le_of_ble_eq_true rfl) (Nat.le_refl _) (Nat.le_refl _) (fun r w' h => by obtain ⟨-, rfl⟩ := h; exact mod_eq) ?_
  rintro _ _ ⟨rfl, rfl⟩
  refine ev_eq (lv' := [(0, .ref 0), (1, .int (nI (2))), (2, .int (nI (1)))]) (st' := [.int (zI ((blkS S (itS S n)).2))]) (w' := modW 0 S ((X.rf, wo, ta, (owF S), 0, X.sh, X.lt, X.ty, X.pl, X.nu, X.od, X.tt, X.oo, X.on, (wonZ S), (itS S n), n, X.rr, X.rn, X.dr) : ModN) K) rfl rfl rfl ?_
  refine ev_top (y := (nI (g))) (by rw [show (blkS S (itS S n)).2 = ((g : Nat) : Int) from by exact hb]; exact zI_nat _) ?_
  refine ev_b bX7_blocks_34_36 (lv' := [(3, .int (nI (g))), (0, .ref 0), (1, .int (nI (2))), (2, .int (nI (1)))]) (st' := [.int (nI (1))]) (w2 := modW 0 S ((X.rf, wo, ta, (owF S), 0, X.sh, X.lt, X.ty, X.pl, X.nu, X.od, X.tt, X.oo, X.on, (wonZ S), (itS S n), n, X.rr, X.rn, X.dr) : ModN) K) rfl ?_
  refine ev_if_ne_n (tgt := 43) (by decide) dX7_blocks_36 (by decide) (fun h36 => ?_) (fun h36 => (by exfalso; omega))
  refine ev_b bX7_blocks_43_44 (lv' := [(3, .int (nI (g))), (0, .ref 0), (1, .int (nI (2))), (2, .int (nI (1)))]) (st' := [.int (nI (g))]) (w2 := modW 0 S ((X.rf, wo, ta, (owF S), 0, X.sh, X.lt, X.ty, X.pl, X.nu, X.od, X.tt, X.oo, X.on, (wonZ S), (itS S n), n, X.rr, X.rn, X.dr) : ModN) K) rfl ?_
  refine ev_if_ge_n (tgt := 51) (by omega) dX7_blocks_44 (by decide) (fun h44 => ?_) (fun h44 => (by exfalso; omega))
  refine ev_b bX7_blocks_51_53 (lv' := [(3, .int (nI (g))), (0, .ref 0), (1, .int (nI (2))), (2, .int (nI (1)))]) (st' := [.int (nI (g)), .ref 0]) (w2 := modW 0 S ((X.rf, wo, ta, (owF S), 0, X.sh, X.lt, X.ty, X.pl, X.nu, X.od, X.tt, X.oo, X.on, (wonZ S), (itS S n), n, X.rr, X.rn, X.dr) : ModN) K) rfl ?_
  refine ev_callM (Yc := mX7_blocksBy) (st := []) dX7_blocks_53 tw_1232 kX7_blocksBy (m_X7_blocksBy S ((X.rf, wo, ta, (owF S), 0, X.sh, X.lt, X.ty, X.pl, X.nu, X.od, X.tt, X.oo, X.on, (wonZ S), (itS S n), n, X.rr, X.rn, X.dr) : ModN) K g hS hg rfl hT rfl) rfl rfl rfl rfl (by decide) (Nat.le_of_ble_eq_true rfl) (Nat.le_refl _) (Nat.le_refl _) (fun r w' h => by obtain ⟨-, rfl⟩ := h; exact mod_eq) ?_
  rintro _ _ ⟨rfl, rfl⟩
  refine ev_eq (lv' := [(3, .int (nI (g))), (0, .ref 0), (1, .int (nI (2))), (2, .int (nI (1)))]) (st' := [.int (zI (excS S (itS S n) g))]) (w' := modW 0 S ((X.rf, wo, ta, (owF S), 0, X.sh, X.lt, X.ty, X.pl, X.nu, X.od, X.tt, X.oo, X.on, (wonZ S), (itS S n), n, X.rr, X.rn, X.dr) : ModN) K) rfl rfl rfl ?_
  exact ev_iret dX7_blocks_56 rfl mod_le (Nat.le_refl _) (Nat.le_refl _) ⟨rfl, _, rfl, mok_fresh hM.1 rfl hT, rfl, rfl, rfl, rfl, rfl⟩
theorem bX7_group_0_1 {l : Launch} {E : XE} : Snd l E mX7_group 0 1 (xs [x_iload 1]) := Snd.cons (snd_iload_n (i := 1) dX7_group_0 rfl) Snd.nil
theorem bX7_group_4_7 {l : Launch} {E : XE} : Snd l E mX7_group 4 7 (xs [x_aload 0, x_push (.int (-4))]) := Snd.cons (snd_aload_n (i := 0) dX7_group_4 rfl) (Snd.cons (snd_bipush (v := -4) dX7_group_5 (by decide)) Snd.nil)
set_option maxHeartbeats 4000000 in
set_option maxRecDepth 100000 in
theorem q_group_4 {l : Launch} {E : XE} (S : SaleN) (X : ModN) (K : Option (Nat → Nat)) (z1 z2 : Int) (hS : SaleOK S) (hM : MOK S X) (rz1 : -2147483648 ≤ z1 ∧ z1 < 2147483648) (rz2 : -2147483648 ≤ z2 ∧ z2 < 2147483648) (h : z1 < 0) : MetE l E mX7_group (1) 0 0 [.ref 0, .int (zI (z1)), .int (zI (z2))] (modW 0 S X K) (MP S K (X.lt) (X.ty) (X.rr) (X.rn) ((up X.rf 4 (X.rf 4 + 1))) (some (.int (-4)))) := by
  refine MetE.of (by decide +kernel) (Nat.le_of_ble_eq_true rfl) ?_
  have hca := hS.1
  have hpw := pow_ca hS
  have hac := ac_lt hS
  have hshl := shl_le hS
  
  refine ev_eq (lv' := [(0, .ref 0), (1, .int (zI (z1))), (2, .int (zI (z2)))]) (st' := []) (w' := modW 0 S X K) rfl rfl rfl ?_
  refine ev_b bX7_group_0_1 (lv' := [(0, .ref 0), (1, .int (zI (z1))), (2, .int (zI (z2)))]) (st' := [.int (zI (z1))]) (w2 := modW 0 S X K) rfl ?_
  refine ev_if_ge_z (tgt := 11) (by constructor <;> omega) dX7_group_1 (by decide) (fun h1 => (by exfalso; omega)) (fun h1 => ?_)
  refine ev_b bX7_group_4_7 (lv' := [(0, .ref 0), (1, .int (zI (z1))), (2, .int (zI (z2)))]) (st' := [.int (-4), .ref 0]) (w2 := modW 0 S X K) rfl ?_
  refine ev_callM (Yc := mX7_refuses) (st := []) dX7_group_7 tw_1012 kX7_refuses (m_X7_refuses_4 S X K) rfl rfl rfl rfl (by decide) (Nat.le_of_ble_eq_true rfl) (Nat.le_refl _) (Nat.le_refl _) (fun r w' h => by obtain ⟨-, rfl⟩ := h; exact mod_eq) ?_
  rintro _ _ ⟨rfl, rfl⟩
  refine ev_eq (lv' := [(0, .ref 0), (1, .int (zI (z1))), (2, .int (zI (z2)))]) (st' := [.int (-4)]) (w' := modW 0 S (((up X.rf 4 (X.rf 4 + 1)), X.wo, X.ta, X.ow, X.sl, X.sh, X.lt, X.ty, X.pl, X.nu, X.od, X.tt, X.oo, X.on, X.wn, X.pd, X.li, X.rr, X.rn, X.dr) : ModN) K) rfl rfl rfl ?_
  exact ev_iret dX7_group_10 rfl mod_le (Nat.le_refl _) (Nat.le_refl _) ⟨rfl, _, rfl, hM, rfl, rfl, rfl, rfl, rfl⟩
theorem bX7_group_11_14 {l : Launch} {E : XE} : Snd l E mX7_group 11 14 (xs [x_iload 1, x_push (.int (nI 32))]) := Snd.cons (snd_iload_n (i := 1) dX7_group_11 rfl) (Snd.cons (snd_bipush (v := nI 32) dX7_group_12 (by decide)) Snd.nil)
theorem bX7_group_17_20 {l : Launch} {E : XE} : Snd l E mX7_group 17 20 (xs [x_aload 0, x_push (.int (-6))]) := Snd.cons (snd_aload_n (i := 0) dX7_group_17 rfl) (Snd.cons (snd_bipush (v := -6) dX7_group_18 (by decide)) Snd.nil)
set_option maxHeartbeats 4000000 in
set_option maxRecDepth 100000 in
theorem q_group_6 {l : Launch} {E : XE} (S : SaleN) (X : ModN) (K : Option (Nat → Nat)) (z1 z2 : Int) (hS : SaleOK S) (hM : MOK S X) (rz1 : -2147483648 ≤ z1 ∧ z1 < 2147483648) (rz2 : -2147483648 ≤ z2 ∧ z2 < 2147483648) (h : 32 ≤ z1) : MetE l E mX7_group (1) 0 0 [.ref 0, .int (zI (z1)), .int (zI (z2))] (modW 0 S X K) (MP S K (X.lt) (X.ty) (X.rr) (X.rn) ((up X.rf 6 (X.rf 6 + 1))) (some (.int (-6)))) := by
  refine MetE.of (by decide +kernel) (Nat.le_of_ble_eq_true rfl) ?_
  have hca := hS.1
  have hpw := pow_ca hS
  have hac := ac_lt hS
  have hshl := shl_le hS
  
  refine ev_eq (lv' := [(0, .ref 0), (1, .int (zI (z1))), (2, .int (zI (z2)))]) (st' := []) (w' := modW 0 S X K) rfl rfl rfl ?_
  refine ev_b bX7_group_0_1 (lv' := [(0, .ref 0), (1, .int (zI (z1))), (2, .int (zI (z2)))]) (st' := [.int (zI (z1))]) (w2 := modW 0 S X K) rfl ?_
  refine ev_if_ge_z (tgt := 11) (by constructor <;> omega) dX7_group_1 (by decide) (fun h1 => ?_) (fun h1 => (by exfalso; omega))
  refine ev_b bX7_group_11_14 (lv' := [(0, .ref 0), (1, .int (zI (z1))), (2, .int (zI (z2)))]) (st' := [.int (nI (32)), .int (zI (z1))]) (w2 := modW 0 S X K) rfl ?_
  refine ev_top (y := zI (((32 : Nat) : Int))) (zI_nat _).symm ?_
  refine ev_icmp_lt_z (tgt := 24) (by constructor <;> omega) (by constructor <;> omega) dX7_group_14 (by decide) (fun h14 => (by exfalso; omega)) (fun h14 => ?_)
  refine ev_b bX7_group_17_20 (lv' := [(0, .ref 0), (1, .int (zI (z1))), (2, .int (zI (z2)))]) (st' := [.int (-6), .ref 0]) (w2 := modW 0 S X K) rfl ?_
  refine ev_callM (Yc := mX7_refuses) (st := []) dX7_group_20 tw_1012 kX7_refuses (m_X7_refuses_6 S X K) rfl rfl rfl rfl (by decide) (Nat.le_of_ble_eq_true rfl) (Nat.le_refl _) (Nat.le_refl _) (fun r w' h => by obtain ⟨-, rfl⟩ := h; exact mod_eq) ?_
  rintro _ _ ⟨rfl, rfl⟩
  refine ev_eq (lv' := [(0, .ref 0), (1, .int (zI (z1))), (2, .int (zI (z2)))]) (st' := [.int (-6)]) (w' := modW 0 S (((up X.rf 6 (X.rf 6 + 1)), X.wo, X.ta, X.ow, X.sl, X.sh, X.lt, X.ty, X.pl, X.nu, X.od, X.tt, X.oo, X.on, X.wn, X.pd, X.li, X.rr, X.rn, X.dr) : ModN) K) rfl rfl rfl ?_
  exact ev_iret dX7_group_23 rfl mod_le (Nat.le_refl _) (Nat.le_refl _) ⟨rfl, _, rfl, hM, rfl, rfl, rfl, rfl, rfl⟩
theorem bX7_group_24_26 {l : Launch} {E : XE} : Snd l E mX7_group 24 26 (xs [x_aload 0, x_iload 1]) := Snd.cons (snd_aload_n (i := 0) dX7_group_24 rfl) (Snd.cons (snd_iload_n (i := 1) dX7_group_25 rfl) Snd.nil)
theorem bX7_group_29_31 {l : Launch} {E : XE} : Snd l E mX7_group 29 31 (xs [x_istore 3, x_iload 2]) := Snd.cons (snd_istore_n (i := 3) dX7_group_29 rfl (by decide)) (Snd.cons (snd_iload_n (i := 2) dX7_group_30 rfl) Snd.nil)
theorem bX7_group_143_146 {l : Launch} {E : XE} : Snd l E mX7_group 143 146 (xs [x_aload 0, x_push (.int (-2))]) := Snd.cons (snd_aload_n (i := 0) dX7_group_143 rfl) (Snd.cons (snd_bipush (v := -2) dX7_group_144 (by decide)) Snd.nil)
set_option maxHeartbeats 4000000 in
set_option maxRecDepth 100000 in
theorem q_group_2 {l : Launch} {E : XE} (S : SaleN) (X : ModN) (K : Option (Nat → Nat)) (g : Nat) (z2 : Int) (hS : SaleOK S) (hM : MOK S X) (rz2 : -2147483648 ≤ z2 ∧ z2 < 2147483648) (hg : g < 32) (h : z2 < 0 ∨ 4 < z2) : MetE l E mX7_group (2) 0 0 [.ref 0, .int (nI (g)), .int (zI (z2))] (modW 0 S X K) (MP S K (X.lt) (X.ty) (X.rr) (X.rn) ((up X.rf 2 (X.rf 2 + 1))) (some (.int (-2)))) := by
  refine MetE.of (by decide +kernel) (Nat.le_of_ble_eq_true rfl) ?_
  have hca := hS.1
  have hpw := pow_ca hS
  have hac := ac_lt hS
  have hshl := shl_le hS
  
  refine ev_eq (lv' := [(0, .ref 0), (1, .int (nI (g))), (2, .int (zI (z2)))]) (st' := []) (w' := modW 0 S X K) rfl rfl rfl ?_
  refine ev_b bX7_group_0_1 (lv' := [(0, .ref 0), (1, .int (nI (g))), (2, .int (zI (z2)))]) (st' := [.int (nI (g))]) (w2 := modW 0 S X K) rfl ?_
  refine ev_if_ge_n (tgt := 11) (by omega) dX7_group_1 (by decide) (fun h1 => ?_) (fun h1 => (by exfalso; omega))
  refine ev_b bX7_group_11_14 (lv' := [(0, .ref 0), (1, .int (nI (g))), (2, .int (zI (z2)))]) (st' := [.int (nI (32)), .int (nI (g))]) (w2 := modW 0 S X K) rfl ?_
  refine ev_icmp_lt_n (tgt := 24) (by omega) (by decide) dX7_group_14 (by decide) (fun h14 => ?_) (fun h14 => (by exfalso; omega))
  refine ev_b bX7_group_24_26 (lv' := [(0, .ref 0), (1, .int (nI (g))), (2, .int (zI (z2)))]) (st' := [.int (nI (g)), .ref 0]) (w2 := modW 0 S X K) rfl ?_
  refine ev_callM (Yc := mX7_ofGroup) (st := []) dX7_group_26 tw_1236 kX7_ofGroup (m_X7_ofGroup S X K g hS (by omega)) rfl rfl rfl rfl (by decide) (Nat.le_of_ble_eq_true rfl) (Nat.le_refl _) (Nat.le_refl _) (fun r w' h => by obtain ⟨-, rfl⟩ := h; exact mod_eq) ?_
  rintro _ _ ⟨rfl, rfl⟩
  refine ev_eq (lv' := [(0, .ref 0), (1, .int (nI (g))), (2, .int (zI (z2)))]) (st' := [.int (nI (bgTo S.ow g 5))]) (w' := modW 0 S ((X.rf, X.wo, X.ta, (owF S), X.sl, X.sh, X.lt, X.ty, X.pl, X.nu, X.od, X.tt, X.oo, X.on, X.wn, X.pd, X.li, X.rr, X.rn, X.dr) : ModN) K) rfl rfl rfl ?_
  refine ev_b bX7_group_29_31 (lv' := [(3, .int (nI (bgTo S.ow g 5))), (0, .ref 0), (1, .int (nI (g))), (2, .int (zI (z2)))]) (st' := [.int (zI (z2))]) (w2 := modW 0 S ((X.rf, X.wo, X.ta, (owF S), X.sl, X.sh, X.lt, X.ty, X.pl, X.nu, X.od, X.tt, X.oo, X.on, X.wn, X.pd, X.li, X.rr, X.rn, X.dr) : ModN) K) rfl ?_
  refine ev_tableOut (tgt := 143) dX7_group_31 (by rw [zI_toInt (by omega) (by omega)]; omega) (by decide) ?_
  refine ev_b bX7_group_143_146 (lv' := [(3, .int (nI (bgTo S.ow g 5))), (0, .ref 0), (1, .int (nI (g))), (2, .int (zI (z2)))]) (st' := [.int (-2), .ref 0]) (w2 := modW 0 S ((X.rf, X.wo, X.ta, (owF S), X.sl, X.sh, X.lt, X.ty, X.pl, X.nu, X.od, X.tt, X.oo, X.on, X.wn, X.pd, X.li, X.rr, X.rn, X.dr) : ModN) K) rfl ?_
  refine ev_callM (Yc := mX7_refuses) (st := []) dX7_group_146 tw_1012 kX7_refuses (m_X7_refuses_2 S ((X.rf, X.wo, X.ta, (owF S), X.sl, X.sh, X.lt, X.ty, X.pl, X.nu, X.od, X.tt, X.oo, X.on, X.wn, X.pd, X.li, X.rr, X.rn, X.dr) : ModN) K) rfl rfl rfl rfl (by decide) (Nat.le_of_ble_eq_true rfl) (Nat.le_refl _) (Nat.le_refl _) (fun r w' h => by obtain ⟨-, rfl⟩ := h; exact mod_eq) ?_
  rintro _ _ ⟨rfl, rfl⟩
  refine ev_eq (lv' := [(3, .int (nI (bgTo S.ow g 5))), (0, .ref 0), (1, .int (nI (g))), (2, .int (zI (z2)))]) (st' := [.int (-2)]) (w' := modW 0 S (((up X.rf 2 (X.rf 2 + 1)), X.wo, X.ta, (owF S), X.sl, X.sh, X.lt, X.ty, X.pl, X.nu, X.od, X.tt, X.oo, X.on, X.wn, X.pd, X.li, X.rr, X.rn, X.dr) : ModN) K) rfl rfl rfl ?_
  exact ev_iret dX7_group_149 rfl mod_le (Nat.le_refl _) (Nat.le_refl _) ⟨rfl, _, rfl, hM, rfl, rfl, rfl, rfl, rfl⟩
theorem bX7_group_64_66 {l : Launch} {E : XE} : Snd l E mX7_group 64 66 (xs [x_aload 0, x_iload 3]) := Snd.cons (snd_aload_n (i := 0) dX7_group_64 rfl) (Snd.cons (snd_iload_n (i := 3) dX7_group_65 rfl) Snd.nil)
set_option maxHeartbeats 4000000 in
set_option maxRecDepth 100000 in
theorem q_group_w0 {l : Launch} {E : XE} (S : SaleN) (X : ModN) (K : Option (Nat → Nat)) (g : Nat) (hS : SaleOK S) (hM : MOK S X) (hg : g < 32) : MetE l E mX7_group (6) 0 0 [.ref 0, .int (nI (g)), .int (nI (0))] (modW 0 S X K) (MP S K (X.lt) (X.ty) (X.rr) (X.rn) (X.rf) (some (.int (nI (winW S (bgTo S.ow g 5)))))) := by
  refine MetE.of (by decide +kernel) (Nat.le_of_ble_eq_true rfl) ?_
  have hca := hS.1
  have hpw := pow_ca hS
  have hac := ac_lt hS
  have hshl := shl_le hS
  have hgl := bgS_lt hS g
  refine ev_eq (lv' := [(0, .ref 0), (1, .int (nI (g))), (2, .int (nI (0)))]) (st' := []) (w' := modW 0 S X K) rfl rfl rfl ?_
  refine ev_b bX7_group_0_1 (lv' := [(0, .ref 0), (1, .int (nI (g))), (2, .int (nI (0)))]) (st' := [.int (nI (g))]) (w2 := modW 0 S X K) rfl ?_
  refine ev_if_ge_n (tgt := 11) (by omega) dX7_group_1 (by decide) (fun h1 => ?_) (fun h1 => (by exfalso; omega))
  refine ev_b bX7_group_11_14 (lv' := [(0, .ref 0), (1, .int (nI (g))), (2, .int (nI (0)))]) (st' := [.int (nI (32)), .int (nI (g))]) (w2 := modW 0 S X K) rfl ?_
  refine ev_icmp_lt_n (tgt := 24) (by omega) (by decide) dX7_group_14 (by decide) (fun h14 => ?_) (fun h14 => (by exfalso; omega))
  refine ev_b bX7_group_24_26 (lv' := [(0, .ref 0), (1, .int (nI (g))), (2, .int (nI (0)))]) (st' := [.int (nI (g)), .ref 0]) (w2 := modW 0 S X K) rfl ?_
  refine ev_callM (Yc := mX7_ofGroup) (st := []) dX7_group_26 tw_1236 kX7_ofGroup (m_X7_ofGroup S X K g hS (by omega)) rfl rfl rfl rfl (by decide) (Nat.le_of_ble_eq_true rfl) (Nat.le_refl _) (Nat.le_refl _) (fun r w' h => by obtain ⟨-, rfl⟩ := h; exact mod_eq) ?_
  rintro _ _ ⟨rfl, rfl⟩
  refine ev_eq (lv' := [(0, .ref 0), (1, .int (nI (g))), (2, .int (nI (0)))]) (st' := [.int (nI (bgTo S.ow g 5))]) (w' := modW 0 S ((X.rf, X.wo, X.ta, (owF S), X.sl, X.sh, X.lt, X.ty, X.pl, X.nu, X.od, X.tt, X.oo, X.on, X.wn, X.pd, X.li, X.rr, X.rn, X.dr) : ModN) K) rfl rfl rfl ?_
  refine ev_b bX7_group_29_31 (lv' := [(3, .int (nI (bgTo S.ow g 5))), (0, .ref 0), (1, .int (nI (g))), (2, .int (nI (0)))]) (st' := [.int (nI (0))]) (w2 := modW 0 S ((X.rf, X.wo, X.ta, (owF S), X.sl, X.sh, X.lt, X.ty, X.pl, X.nu, X.od, X.tt, X.oo, X.on, X.wn, X.pd, X.li, X.rr, X.rn, X.dr) : ModN) K) rfl ?_
  refine ev_tableIn (off := 33) (tgt := 64) dX7_group_31 (by decide) (by decide) (by decide) (by decide) ?_
  refine ev_b bX7_group_64_66 (lv' := [(3, .int (nI (bgTo S.ow g 5))), (0, .ref 0), (1, .int (nI (g))), (2, .int (nI (0)))]) (st' := [.int (nI (bgTo S.ow g 5)), .ref 0]) (w2 := modW 0 S ((X.rf, X.wo, X.ta, (owF S), X.sl, X.sh, X.lt, X.ty, X.pl, X.nu, X.od, X.tt, X.oo, X.on, X.wn, X.pd, X.li, X.rr, X.rn, X.dr) : ModN) K) rfl ?_
  refine ev_callM (Yc := mX7_bestOf) (st := []) dX7_group_66 tw_1167 kX7_bestOf (m_X7_bestOf_g S S.kd S.fg ((X.rf, X.wo, X.ta, (owF S), X.sl, X.sh, X.lt, X.ty, X.pl, X.nu, X.od, X.tt, X.oo, X.on, X.wn, X.pd, X.li, X.rr, X.rn, X.dr) : ModN) K (bgTo S.ow g 5) hS (kf_self hM.1) hM.2 (by omega)) rfl rfl rfl rfl (by decide) (Nat.le_of_ble_eq_true rfl) (Nat.le_refl _) (Nat.le_refl _) (fun r w' h => by obtain ⟨-, wo, ta, ow, rfl, -⟩ := h; exact mod_eq) ?_
  rintro _ _ ⟨rfl, wo, ta, ow, rfl, hT⟩
  refine ev_eq (lv' := [(3, .int (nI (bgTo S.ow g 5))), (0, .ref 0), (1, .int (nI (g))), (2, .int (nI (0)))]) (st' := [.int (nI (winW S (bgTo S.ow g 5)))]) (w' := modW 0 S ((X.rf, wo, ta, ow, 0, X.sh, X.lt, X.ty, X.pl, X.nu, X.od, X.tt, X.oo, X.on, X.wn, X.pd, X.li, X.rr, X.rn, X.dr) : ModN) K) rfl rfl rfl ?_
  exact ev_iret dX7_group_69 rfl mod_le (Nat.le_refl _) (Nat.le_refl _) ⟨rfl, _, rfl, mok_fresh hM.1 rfl hT, rfl, rfl, rfl, rfl, rfl⟩
theorem bX7_group_70_72 {l : Launch} {E : XE} : Snd l E mX7_group 70 72 (xs [x_aload 0, x_iload 3]) := Snd.cons (snd_aload_n (i := 0) dX7_group_70 rfl) (Snd.cons (snd_iload_n (i := 3) dX7_group_71 rfl) Snd.nil)
set_option maxHeartbeats 4000000 in
set_option maxRecDepth 100000 in
theorem q_group_w1 {l : Launch} {E : XE} (S : SaleN) (X : ModN) (K : Option (Nat → Nat)) (g : Nat) (hS : SaleOK S) (hM : MOK S X) (hg : g < 32) : MetE l E mX7_group (5) 0 0 [.ref 0, .int (nI (g)), .int (nI (1))] (modW 0 S X K) (MP S K (X.lt) (X.ty) (X.rr) (X.rn) (X.rf) (some (.int (nI (winB S (bgTo S.ow g 5)))))) := by
  refine MetE.of (by decide +kernel) (Nat.le_of_ble_eq_true rfl) ?_
  have hca := hS.1
  have hpw := pow_ca hS
  have hac := ac_lt hS
  have hshl := shl_le hS
  have hgl := bgS_lt hS g
  refine ev_eq (lv' := [(0, .ref 0), (1, .int (nI (g))), (2, .int (nI (1)))]) (st' := []) (w' := modW 0 S X K) rfl rfl rfl ?_
  refine ev_b bX7_group_0_1 (lv' := [(0, .ref 0), (1, .int (nI (g))), (2, .int (nI (1)))]) (st' := [.int (nI (g))]) (w2 := modW 0 S X K) rfl ?_
  refine ev_if_ge_n (tgt := 11) (by omega) dX7_group_1 (by decide) (fun h1 => ?_) (fun h1 => (by exfalso; omega))
  refine ev_b bX7_group_11_14 (lv' := [(0, .ref 0), (1, .int (nI (g))), (2, .int (nI (1)))]) (st' := [.int (nI (32)), .int (nI (g))]) (w2 := modW 0 S X K) rfl ?_
  refine ev_icmp_lt_n (tgt := 24) (by omega) (by decide) dX7_group_14 (by decide) (fun h14 => ?_) (fun h14 => (by exfalso; omega))
  refine ev_b bX7_group_24_26 (lv' := [(0, .ref 0), (1, .int (nI (g))), (2, .int (nI (1)))]) (st' := [.int (nI (g)), .ref 0]) (w2 := modW 0 S X K) rfl ?_
  refine ev_callM (Yc := mX7_ofGroup) (st := []) dX7_group_26 tw_1236 kX7_ofGroup (m_X7_ofGroup S X K g hS (by omega)) rfl rfl rfl rfl (by decide) (Nat.le_of_ble_eq_true rfl) (Nat.le_refl _) (Nat.le_refl _) (fun r w' h => by obtain ⟨-, rfl⟩ := h; exact mod_eq) ?_
  rintro _ _ ⟨rfl, rfl⟩
  refine ev_eq (lv' := [(0, .ref 0), (1, .int (nI (g))), (2, .int (nI (1)))]) (st' := [.int (nI (bgTo S.ow g 5))]) (w' := modW 0 S ((X.rf, X.wo, X.ta, (owF S), X.sl, X.sh, X.lt, X.ty, X.pl, X.nu, X.od, X.tt, X.oo, X.on, X.wn, X.pd, X.li, X.rr, X.rn, X.dr) : ModN) K) rfl rfl rfl ?_
  refine ev_b bX7_group_29_31 (lv' := [(3, .int (nI (bgTo S.ow g 5))), (0, .ref 0), (1, .int (nI (g))), (2, .int (nI (1)))]) (st' := [.int (nI (1))]) (w2 := modW 0 S ((X.rf, X.wo, X.ta, (owF S), X.sl, X.sh, X.lt, X.ty, X.pl, X.nu, X.od, X.tt, X.oo, X.on, X.wn, X.pd, X.li, X.rr, X.rn, X.dr) : ModN) K) rfl ?_
  refine ev_tableIn (off := 39) (tgt := 70) dX7_group_31 (by decide) (by decide) (by decide) (by decide) ?_
  refine ev_b bX7_group_70_72 (lv' := [(3, .int (nI (bgTo S.ow g 5))), (0, .ref 0), (1, .int (nI (g))), (2, .int (nI (1)))]) (st' := [.int (nI (bgTo S.ow g 5)), .ref 0]) (w2 := modW 0 S ((X.rf, X.wo, X.ta, (owF S), X.sl, X.sh, X.lt, X.ty, X.pl, X.nu, X.od, X.tt, X.oo, X.on, X.wn, X.pd, X.li, X.rr, X.rn, X.dr) : ModN) K) rfl ?_
  refine ev_callM (Yc := mX7_winnersOf) (st := []) dX7_group_72 tw_1108 kX7_winnersOf (m_X7_winnersOf_g S S.kd S.fg ((X.rf, X.wo, X.ta, (owF S), X.sl, X.sh, X.lt, X.ty, X.pl, X.nu, X.od, X.tt, X.oo, X.on, X.wn, X.pd, X.li, X.rr, X.rn, X.dr) : ModN) K (bgTo S.ow g 5) hS (kf_self hM.1) hM.2 (by omega)) rfl rfl rfl rfl (by decide) (Nat.le_of_ble_eq_true rfl) (Nat.le_refl _) (Nat.le_refl _) (fun r w' h => by obtain ⟨-, wo, ta, ow, rfl, -⟩ := h; exact mod_eq) ?_
  rintro _ _ ⟨rfl, wo, ta, ow, rfl, hT⟩
  refine ev_eq (lv' := [(3, .int (nI (bgTo S.ow g 5))), (0, .ref 0), (1, .int (nI (g))), (2, .int (nI (1)))]) (st' := [.int (nI (winB S (bgTo S.ow g 5)))]) (w' := modW 0 S ((X.rf, wo, ta, ow, 0, X.sh, X.lt, X.ty, X.pl, X.nu, X.od, X.tt, X.oo, X.on, X.wn, X.pd, X.li, X.rr, X.rn, X.dr) : ModN) K) rfl rfl rfl ?_
  exact ev_iret dX7_group_75 rfl mod_le (Nat.le_refl _) (Nat.le_refl _) ⟨rfl, _, rfl, mok_fresh hM.1 rfl hT, rfl, rfl, rfl, rfl, rfl⟩
theorem bX7_group_76_78 {l : Launch} {E : XE} : Snd l E mX7_group 76 78 (xs [x_aload 0, x_aload 0]) := Snd.cons (snd_aload_n (i := 0) dX7_group_76 rfl) (Snd.cons (snd_aload_n (i := 0) dX7_group_77 rfl) Snd.nil)
theorem bX7_group_81_82 {l : Launch} {E : XE} : Snd l E mX7_group 81 82 (xs [x_iload 3]) := Snd.cons (snd_iload_n (i := 3) dX7_group_81 rfl) Snd.nil
set_option maxHeartbeats 4000000 in
set_option maxRecDepth 100000 in
theorem q_group_w2 {l : Launch} {E : XE} (S : SaleN) (X : ModN) (K : Option (Nat → Nat)) (g : Nat) (hS : SaleOK S) (hM : MOK S X) (hg : g < 32) : MetE l E mX7_group (6) 0 0 [.ref 0, .int (nI (g)), .int (nI (2))] (modW 0 S X K) (MP S K (X.lt) (X.ty) (X.rr) (X.rn) (X.rf) (some (.int (zI (totZ (wonZ S) g 5))))) := by
  refine MetE.of (by decide +kernel) (Nat.le_of_ble_eq_true rfl) ?_
  have hca := hS.1
  have hpw := pow_ca hS
  have hac := ac_lt hS
  have hshl := shl_le hS
  have hgl := bgS_lt hS g
  refine ev_eq (lv' := [(0, .ref 0), (1, .int (nI (g))), (2, .int (nI (2)))]) (st' := []) (w' := modW 0 S X K) rfl rfl rfl ?_
  refine ev_b bX7_group_0_1 (lv' := [(0, .ref 0), (1, .int (nI (g))), (2, .int (nI (2)))]) (st' := [.int (nI (g))]) (w2 := modW 0 S X K) rfl ?_
  refine ev_if_ge_n (tgt := 11) (by omega) dX7_group_1 (by decide) (fun h1 => ?_) (fun h1 => (by exfalso; omega))
  refine ev_b bX7_group_11_14 (lv' := [(0, .ref 0), (1, .int (nI (g))), (2, .int (nI (2)))]) (st' := [.int (nI (32)), .int (nI (g))]) (w2 := modW 0 S X K) rfl ?_
  refine ev_icmp_lt_n (tgt := 24) (by omega) (by decide) dX7_group_14 (by decide) (fun h14 => ?_) (fun h14 => (by exfalso; omega))
  refine ev_b bX7_group_24_26 (lv' := [(0, .ref 0), (1, .int (nI (g))), (2, .int (nI (2)))]) (st' := [.int (nI (g)), .ref 0]) (w2 := modW 0 S X K) rfl ?_
  refine ev_callM (Yc := mX7_ofGroup) (st := []) dX7_group_26 tw_1236 kX7_ofGroup (m_X7_ofGroup S X K g hS (by omega)) rfl rfl rfl rfl (by decide) (Nat.le_of_ble_eq_true rfl) (Nat.le_refl _) (Nat.le_refl _) (fun r w' h => by obtain ⟨-, rfl⟩ := h; exact mod_eq) ?_
  rintro _ _ ⟨rfl, rfl⟩
  refine ev_eq (lv' := [(0, .ref 0), (1, .int (nI (g))), (2, .int (nI (2)))]) (st' := [.int (nI (bgTo S.ow g 5))]) (w' := modW 0 S ((X.rf, X.wo, X.ta, (owF S), X.sl, X.sh, X.lt, X.ty, X.pl, X.nu, X.od, X.tt, X.oo, X.on, X.wn, X.pd, X.li, X.rr, X.rn, X.dr) : ModN) K) rfl rfl rfl ?_
  refine ev_b bX7_group_29_31 (lv' := [(3, .int (nI (bgTo S.ow g 5))), (0, .ref 0), (1, .int (nI (g))), (2, .int (nI (2)))]) (st' := [.int (nI (2))]) (w2 := modW 0 S ((X.rf, X.wo, X.ta, (owF S), X.sl, X.sh, X.lt, X.ty, X.pl, X.nu, X.od, X.tt, X.oo, X.on, X.wn, X.pd, X.li, X.rr, X.rn, X.dr) : ModN) K) rfl ?_
  refine ev_tableIn (off := 45) (tgt := 76) dX7_group_31 (by decide) (by decide) (by decide) (by decide) ?_
  refine ev_b bX7_group_76_78 (lv' := [(3, .int (nI (bgTo S.ow g 5))), (0, .ref 0), (1, .int (nI (g))), (2, .int (nI (2)))]) (st' := [.ref 0, .ref 0]) (w2 := modW 0 S ((X.rf, X.wo, X.ta, (owF S), X.sl, X.sh, X.lt, X.ty, X.pl, X.nu, X.od, X.tt, X.oo, X.on, X.wn, X.pd, X.li, X.rr, X.rn, X.dr) : ModN) K) rfl ?_
  refine ev_callM (Yc := mX7_winnersNow) (st := [.ref 0]) dX7_group_78 tw_1104 kX7_winnersNow (m_X7_winnersNow_g S S.kd S.fg ((X.rf, X.wo, X.ta, (owF S), X.sl, X.sh, X.lt, X.ty, X.pl, X.nu, X.od, X.tt, X.oo, X.on, X.wn, X.pd, X.li, X.rr, X.rn, X.dr) : ModN) K hS (kf_self hM.1) hM.2) rfl rfl rfl rfl (by decide) (Nat.le_of_ble_eq_true rfl) (Nat.le_refl _) (Nat.le_refl _) (fun r w' h => by obtain ⟨-, wo, ta, ow, rfl, -⟩ := h; exact mod_eq) ?_
  rintro _ _ ⟨rfl, wo, ta, ow, rfl, hT⟩
  refine ev_eq (lv' := [(3, .int (nI (bgTo S.ow g 5))), (0, .ref 0), (1, .int (nI (g))), (2, .int (nI (2)))]) (st' := [.int (nI (winB S 1023)), .ref 0]) (w' := modW 0 S ((X.rf, wo, ta, ow, 0, X.sh, X.lt, X.ty, X.pl, X.nu, X.od, X.tt, X.oo, X.on, X.wn, X.pd, X.li, X.rr, X.rn, X.dr) : ModN) K) rfl rfl rfl ?_
  have hwb := winB_lt hS 1023
  refine ev_b bX7_group_81_82 (lv' := [(3, .int (nI (bgTo S.ow g 5))), (0, .ref 0), (1, .int (nI (g))), (2, .int (nI (2)))]) (st' := [.int (nI (bgTo S.ow g 5)), .int (nI (winB S 1023)), .ref 0]) (w2 := modW 0 S ((X.rf, wo, ta, ow, 0, X.sh, X.lt, X.ty, X.pl, X.nu, X.od, X.tt, X.oo, X.on, X.wn, X.pd, X.li, X.rr, X.rn, X.dr) : ModN) K) rfl ?_
  refine ev_iand_n dX7_group_82 ?_
  refine ev_callM (Yc := mX7_pricesOf) (st := []) dX7_group_83 tw_1159 kX7_pricesOf (m_X7_pricesOf S S.kd S.fg ((X.rf, wo, ta, ow, 0, X.sh, X.lt, X.ty, X.pl, X.nu, X.od, X.tt, X.oo, X.on, X.wn, X.pd, X.li, X.rr, X.rn, X.dr) : ModN) K (winB S 1023 &&& (bgTo S.ow g 5)) hS (Nat.lt_of_le_of_lt Nat.and_le_left (by omega))) rfl rfl rfl rfl (by decide) (Nat.le_of_ble_eq_true rfl) (Nat.le_refl _) (Nat.le_refl _) (fun r w' h => by obtain ⟨-, rfl⟩ := h; exact mod_eq) ?_
  rintro _ _ ⟨rfl, rfl⟩
  refine ev_eq (lv' := [(3, .int (nI (bgTo S.ow g 5))), (0, .ref 0), (1, .int (nI (g))), (2, .int (nI (2)))]) (st' := [.int (nI (prTo S.pr (winB S 1023 &&& (bgTo S.ow g 5)) S.ca))]) (w' := modW 0 S ((X.rf, wo, ta, ow, 0, X.sh, X.lt, X.ty, X.pl, X.nu, X.od, X.tt, X.oo, X.on, X.wn, X.pd, X.li, X.rr, X.rn, X.dr) : ModN) K) rfl rfl rfl ?_
  refine ev_top (y := (zI (totZ (wonZ S) g 5))) ((zI_nat _).symm.trans (congrArg zI (show ((prTo S.pr (winB S 1023 &&& (bgTo S.ow g 5)) S.ca : Nat) : Int) = totZ (wonZ S) g 5 from by exact won_bg hS g))) ?_
  exact ev_iret dX7_group_86 rfl mod_le (Nat.le_refl _) (Nat.le_refl _) ⟨rfl, _, rfl, mok_fresh hM.1 rfl hT, rfl, rfl, rfl, rfl, rfl⟩
theorem bX7_group_87_89 {l : Launch} {E : XE} : Snd l E mX7_group 87 89 (xs [x_aload 0, x_iload 3]) := Snd.cons (snd_aload_n (i := 0) dX7_group_87 rfl) (Snd.cons (snd_iload_n (i := 3) dX7_group_88 rfl) Snd.nil)
set_option maxHeartbeats 4000000 in
set_option maxRecDepth 100000 in
theorem q_group_w3 {l : Launch} {E : XE} (S : SaleN) (X : ModN) (K : Option (Nat → Nat)) (g : Nat) (hS : SaleOK S) (hM : MOK S X) (hg : g < 32) : MetE l E mX7_group (7) 0 0 [.ref 0, .int (nI (g)), .int (nI (3))] (modW 0 S X K) (MP S K (X.lt) (X.ty) (X.rr) (X.rn) (X.rf) (some (.int (zI (harmZ S g))))) := by
  refine MetE.of (by decide +kernel) (Nat.le_of_ble_eq_true rfl) ?_
  have hca := hS.1
  have hpw := pow_ca hS
  have hac := ac_lt hS
  have hshl := shl_le hS
  have hgl := bgS_lt hS g
  refine ev_eq (lv' := [(0, .ref 0), (1, .int (nI (g))), (2, .int (nI (3)))]) (st' := []) (w' := modW 0 S X K) rfl rfl rfl ?_
  refine ev_b bX7_group_0_1 (lv' := [(0, .ref 0), (1, .int (nI (g))), (2, .int (nI (3)))]) (st' := [.int (nI (g))]) (w2 := modW 0 S X K) rfl ?_
  refine ev_if_ge_n (tgt := 11) (by omega) dX7_group_1 (by decide) (fun h1 => ?_) (fun h1 => (by exfalso; omega))
  refine ev_b bX7_group_11_14 (lv' := [(0, .ref 0), (1, .int (nI (g))), (2, .int (nI (3)))]) (st' := [.int (nI (32)), .int (nI (g))]) (w2 := modW 0 S X K) rfl ?_
  refine ev_icmp_lt_n (tgt := 24) (by omega) (by decide) dX7_group_14 (by decide) (fun h14 => ?_) (fun h14 => (by exfalso; omega))
  refine ev_b bX7_group_24_26 (lv' := [(0, .ref 0), (1, .int (nI (g))), (2, .int (nI (3)))]) (st' := [.int (nI (g)), .ref 0]) (w2 := modW 0 S X K) rfl ?_
  refine ev_callM (Yc := mX7_ofGroup) (st := []) dX7_group_26 tw_1236 kX7_ofGroup (m_X7_ofGroup S X K g hS (by omega)) rfl rfl rfl rfl (by decide) (Nat.le_of_ble_eq_true rfl) (Nat.le_refl _) (Nat.le_refl _) (fun r w' h => by obtain ⟨-, rfl⟩ := h; exact mod_eq) ?_
  rintro _ _ ⟨rfl, rfl⟩
  refine ev_eq (lv' := [(0, .ref 0), (1, .int (nI (g))), (2, .int (nI (3)))]) (st' := [.int (nI (bgTo S.ow g 5))]) (w' := modW 0 S ((X.rf, X.wo, X.ta, (owF S), X.sl, X.sh, X.lt, X.ty, X.pl, X.nu, X.od, X.tt, X.oo, X.on, X.wn, X.pd, X.li, X.rr, X.rn, X.dr) : ModN) K) rfl rfl rfl ?_
  refine ev_b bX7_group_29_31 (lv' := [(3, .int (nI (bgTo S.ow g 5))), (0, .ref 0), (1, .int (nI (g))), (2, .int (nI (3)))]) (st' := [.int (nI (3))]) (w2 := modW 0 S ((X.rf, X.wo, X.ta, (owF S), X.sl, X.sh, X.lt, X.ty, X.pl, X.nu, X.od, X.tt, X.oo, X.on, X.wn, X.pd, X.li, X.rr, X.rn, X.dr) : ModN) K) rfl ?_
  refine ev_tableIn (off := 56) (tgt := 87) dX7_group_31 (by decide) (by decide) (by decide) (by decide) ?_
  refine ev_b bX7_group_87_89 (lv' := [(3, .int (nI (bgTo S.ow g 5))), (0, .ref 0), (1, .int (nI (g))), (2, .int (nI (3)))]) (st' := [.int (nI (bgTo S.ow g 5)), .ref 0]) (w2 := modW 0 S ((X.rf, X.wo, X.ta, (owF S), X.sl, X.sh, X.lt, X.ty, X.pl, X.nu, X.od, X.tt, X.oo, X.on, X.wn, X.pd, X.li, X.rr, X.rn, X.dr) : ModN) K) rfl ?_
  refine ev_callM (Yc := mX7_harmOf) (st := []) dX7_group_89 tw_1163 kX7_harmOf (m_X7_harmOf_g S S.kd S.fg ((X.rf, X.wo, X.ta, (owF S), X.sl, X.sh, X.lt, X.ty, X.pl, X.nu, X.od, X.tt, X.oo, X.on, X.wn, X.pd, X.li, X.rr, X.rn, X.dr) : ModN) K (bgTo S.ow g 5) hS (kf_self hM.1) hM.2 (by omega)) rfl rfl rfl rfl (by decide) (Nat.le_of_ble_eq_true rfl) (Nat.le_refl _) (Nat.le_refl _) (fun r w' h => by obtain ⟨-, wo, ta, ow, rfl, -⟩ := h; exact mod_eq) ?_
  rintro _ _ ⟨rfl, wo, ta, ow, rfl, hT⟩
  refine ev_eq (lv' := [(3, .int (nI (bgTo S.ow g 5))), (0, .ref 0), (1, .int (nI (g))), (2, .int (nI (3)))]) (st' := [.int (zI (harmM S (bgTo S.ow g 5)))]) (w' := modW 0 S ((X.rf, wo, ta, ow, 0, X.sh, X.lt, X.ty, X.pl, X.nu, X.od, X.tt, X.oo, X.on, X.wn, X.pd, X.li, X.rr, X.rn, X.dr) : ModN) K) rfl rfl rfl ?_
  refine ev_top (y := (zI (harmZ S g))) (congrArg zI (show harmM S (bgTo S.ow g 5) = harmZ S g from by exact harm_bg hS g)) ?_
  exact ev_iret dX7_group_92 rfl mod_le (Nat.le_refl _) (Nat.le_refl _) ⟨rfl, _, rfl, mok_fresh hM.1 rfl hT, rfl, rfl, rfl, rfl, rfl⟩
theorem bX7_group_93_94 {l : Launch} {E : XE} : Snd l E mX7_group 93 94 (xs [x_aload 0]) := Snd.cons (snd_aload_n (i := 0) dX7_group_93 rfl) Snd.nil
theorem bX7_group_97_103 {l : Launch} {E : XE} : Snd l E mX7_group 97 103 (xs [x_push (.int (nI 0)), x_istore 4, x_push (.int (nI 0)), x_istore 5]) := Snd.cons (snd_iconst (v := nI 0) dX7_group_97 (by decide)) (Snd.cons (snd_istore dX7_group_98 (by decide)) (Snd.cons (snd_iconst (v := nI 0) dX7_group_100 (by decide)) (Snd.cons (snd_istore dX7_group_101 (by decide)) Snd.nil)))
theorem bX7_group_103_106 {l : Launch} {E : XE} : Snd l E mX7_group 103 106 (xs [x_iload 5, x_push (.int (nI 5))]) := Snd.cons (snd_iload dX7_group_103) (Snd.cons (snd_iconst (v := nI 5) dX7_group_105 (by decide)) Snd.nil)
theorem bX7_group_140_142 {l : Launch} {E : XE} : Snd l E mX7_group 140 142 (xs [x_iload 4]) := Snd.cons (snd_iload dX7_group_140) Snd.nil
theorem bX7_group_109_114 {l : Launch} {E : XE} : Snd l E mX7_group 109 114 (xs [x_iload 4, x_iload 1, x_iload 5]) := Snd.cons (snd_iload dX7_group_109) (Snd.cons (snd_iload_n (i := 1) dX7_group_111 rfl) (Snd.cons (snd_iload dX7_group_112) Snd.nil))
theorem bX7_group_130_131 {l : Launch} {E : XE} : Snd l E mX7_group 130 131 (xs [x_push (.int (nI 0))]) := Snd.cons (snd_iconst (v := nI 0) dX7_group_130 (by decide)) Snd.nil
theorem bX7_group_132_134 {l : Launch} {E : XE} : Snd l E mX7_group 132 134 (xs [x_istore 4]) := Snd.cons (snd_istore dX7_group_132 (by decide)) Snd.nil
theorem bX7_group_137_103 {l : Launch} {E : XE} : Snd l E mX7_group 137 103 (xs [x_id]) := Snd.cons (snd_goto (tgt := 103) dX7_group_137 (by decide)) Snd.nil
theorem bX7_group_120_126 {l : Launch} {E : XE} : Snd l E mX7_group 120 126 (xs [x_aload 0, x_get 8 25, x_iload 5]) := Snd.cons (snd_aload_n (i := 0) dX7_group_120 rfl) (Snd.cons (snd_get (ci := 8) (k := 25) dX7_group_121 rfl inX7 (by decide) tw_939) (Snd.cons (snd_iload dX7_group_124) Snd.nil))
theorem bX7_group_127_131 {l : Launch} {E : XE} : Snd l E mX7_group 127 131 (xs [x_id]) := Snd.cons (snd_goto (tgt := 131) dX7_group_127 (by decide)) Snd.nil
set_option maxHeartbeats 4000000 in
set_option maxRecDepth 100000 in
theorem q_group_w4 {l : Launch} {E : XE} (S : SaleN) (X : ModN) (K : Option (Nat → Nat)) (g : Nat) (hS : SaleOK S) (hM : MOK S X) (hg : g < 32) : MetE l E mX7_group (7) 0 0 [.ref 0, .int (nI (g)), .int (nI (4))] (modW 0 S X K) (MP S K (X.lt) (X.ty) (X.rr) (X.rn) (X.rf) (some (.int (zI (totZ (paidZ S) g 5))))) := by
  refine MetE.of (by decide +kernel) (Nat.le_of_ble_eq_true rfl) ?_
  have hca := hS.1
  have hpw := pow_ca hS
  have hac := ac_lt hS
  have hshl := shl_le hS
  have hgl := bgS_lt hS g
  refine ev_eq (lv' := [(0, .ref 0), (1, .int (nI (g))), (2, .int (nI (4)))]) (st' := []) (w' := modW 0 S X K) rfl rfl rfl ?_
  refine ev_b bX7_group_0_1 (lv' := [(0, .ref 0), (1, .int (nI (g))), (2, .int (nI (4)))]) (st' := [.int (nI (g))]) (w2 := modW 0 S X K) rfl ?_
  refine ev_if_ge_n (tgt := 11) (by omega) dX7_group_1 (by decide) (fun h1 => ?_) (fun h1 => (by exfalso; omega))
  refine ev_b bX7_group_11_14 (lv' := [(0, .ref 0), (1, .int (nI (g))), (2, .int (nI (4)))]) (st' := [.int (nI (32)), .int (nI (g))]) (w2 := modW 0 S X K) rfl ?_
  refine ev_icmp_lt_n (tgt := 24) (by omega) (by decide) dX7_group_14 (by decide) (fun h14 => ?_) (fun h14 => (by exfalso; omega))
  refine ev_b bX7_group_24_26 (lv' := [(0, .ref 0), (1, .int (nI (g))), (2, .int (nI (4)))]) (st' := [.int (nI (g)), .ref 0]) (w2 := modW 0 S X K) rfl ?_
  refine ev_callM (Yc := mX7_ofGroup) (st := []) dX7_group_26 tw_1236 kX7_ofGroup (m_X7_ofGroup S X K g hS (by omega)) rfl rfl rfl rfl (by decide) (Nat.le_of_ble_eq_true rfl) (Nat.le_refl _) (Nat.le_refl _) (fun r w' h => by obtain ⟨-, rfl⟩ := h; exact mod_eq) ?_
  rintro _ _ ⟨rfl, rfl⟩
  refine ev_eq (lv' := [(0, .ref 0), (1, .int (nI (g))), (2, .int (nI (4)))]) (st' := [.int (nI (bgTo S.ow g 5))]) (w' := modW 0 S ((X.rf, X.wo, X.ta, (owF S), X.sl, X.sh, X.lt, X.ty, X.pl, X.nu, X.od, X.tt, X.oo, X.on, X.wn, X.pd, X.li, X.rr, X.rn, X.dr) : ModN) K) rfl rfl rfl ?_
  refine ev_b bX7_group_29_31 (lv' := [(3, .int (nI (bgTo S.ow g 5))), (0, .ref 0), (1, .int (nI (g))), (2, .int (nI (4)))]) (st' := [.int (nI (4))]) (w2 := modW 0 S ((X.rf, X.wo, X.ta, (owF S), X.sl, X.sh, X.lt, X.ty, X.pl, X.nu, X.od, X.tt, X.oo, X.on, X.wn, X.pd, X.li, X.rr, X.rn, X.dr) : ModN) K) rfl ?_
  refine ev_tableIn (off := 62) (tgt := 93) dX7_group_31 (by decide) (by decide) (by decide) (by decide) ?_
  refine ev_b bX7_group_93_94 (lv' := [(3, .int (nI (bgTo S.ow g 5))), (0, .ref 0), (1, .int (nI (g))), (2, .int (nI (4)))]) (st' := [.ref 0]) (w2 := modW 0 S ((X.rf, X.wo, X.ta, (owF S), X.sl, X.sh, X.lt, X.ty, X.pl, X.nu, X.od, X.tt, X.oo, X.on, X.wn, X.pd, X.li, X.rr, X.rn, X.dr) : ModN) K) rfl ?_
  refine ev_callM (Yc := mX7_findHarm) (st := []) dX7_group_94 tw_1224 kX7_findHarm (m_X7_findHarm S ((X.rf, X.wo, X.ta, (owF S), X.sl, X.sh, X.lt, X.ty, X.pl, X.nu, X.od, X.tt, X.oo, X.on, X.wn, X.pd, X.li, X.rr, X.rn, X.dr) : ModN) K hS hM) rfl rfl rfl rfl (by decide) (Nat.le_of_ble_eq_true rfl) (Nat.le_refl _) (Nat.le_refl _) (fun r w' h => by obtain ⟨-, wo, ta, rfl, -⟩ := h; exact mod_eq) ?_
  rintro _ _ ⟨rfl, wo, ta, rfl, hT⟩
  refine ev_eq (lv' := [(3, .int (nI (bgTo S.ow g 5))), (0, .ref 0), (1, .int (nI (g))), (2, .int (nI (4)))]) (st' := []) (w' := modW 0 S ((X.rf, wo, ta, (owF S), 0, X.sh, X.lt, X.ty, X.pl, X.nu, X.od, X.tt, X.oo, X.on, (wonZ S), (paidZ S), X.li, X.rr, X.rn, X.dr) : ModN) K) rfl rfl rfl ?_
  refine ev_b bX7_group_97_103 (lv' := [(5, .int (nI (0))), (4, .int (nI (0))), (3, .int (nI (bgTo S.ow g 5))), (0, .ref 0), (1, .int (nI (g))), (2, .int (nI (4)))]) (st' := []) (w2 := modW 0 S ((X.rf, wo, ta, (owF S), 0, X.sh, X.lt, X.ty, X.pl, X.nu, X.od, X.tt, X.oo, X.on, (wonZ S), (paidZ S), X.li, X.rr, X.rn, X.dr) : ModN) K) rfl ?_
  have L103 : ∀ (j_ k : Nat), k + j_ = 5 → Ev l E mX7_group (7) 0 0 (modW 0 S X K) (MP S K (X.lt) (X.ty) (X.rr) (X.rn) (X.rf) (some (.int (zI (totZ (paidZ S) g 5))))) 0 0 103 [(5, .int (nI (k))), (4, .int (zI (totZ (paidZ S) g k))), (0, .ref 0), (1, .int (nI (g))), (2, .int (nI (4))), (3, .int (nI (bgTo S.ow g 5)))] [] (modW 0 S ((X.rf, wo, ta, (owF S), 0, X.sh, X.lt, X.ty, X.pl, X.nu, X.od, X.tt, X.oo, X.on, (wonZ S), (paidZ S), X.li, X.rr, X.rn, X.dr) : ModN) K) := by
    intro j_
    induction j_ with
    | zero =>
      intro k hk103  
      replace hk103 : k = 5 := hk103
      subst hk103
      refine ev_b bX7_group_103_106 (lv' := [(5, .int (nI (5))), (4, .int (zI (totZ (paidZ S) g 5))), (0, .ref 0), (1, .int (nI (g))), (2, .int (nI (4))), (3, .int (nI (bgTo S.ow g 5)))]) (st' := [.int (nI (5)), .int (nI (5))]) (w2 := modW 0 S ((X.rf, wo, ta, (owF S), 0, X.sh, X.lt, X.ty, X.pl, X.nu, X.od, X.tt, X.oo, X.on, (wonZ S), (paidZ S), X.li, X.rr, X.rn, X.dr) : ModN) K) rfl ?_
      refine ev_icmp_ge_n (tgt := 140) (by decide) (by decide) dX7_group_106 (by decide) (fun h106 => ?_) (fun h106 => (by exfalso; omega))
      refine ev_b bX7_group_140_142 (lv' := [(5, .int (nI (5))), (4, .int (zI (totZ (paidZ S) g 5))), (0, .ref 0), (1, .int (nI (g))), (2, .int (nI (4))), (3, .int (nI (bgTo S.ow g 5)))]) (st' := [.int (zI (totZ (paidZ S) g 5))]) (w2 := modW 0 S ((X.rf, wo, ta, (owF S), 0, X.sh, X.lt, X.ty, X.pl, X.nu, X.od, X.tt, X.oo, X.on, (wonZ S), (paidZ S), X.li, X.rr, X.rn, X.dr) : ModN) K) rfl ?_
      exact ev_iret dX7_group_142 rfl mod_le (Nat.le_refl _) (Nat.le_refl _) ⟨rfl, _, rfl, mok_fresh hM.1 rfl hT, rfl, rfl, rfl, rfl, rfl⟩
    | succ j_ ih103 =>
      intro k hk103  
      have hlt103 : k < 5 := by omega
      refine ev_b bX7_group_103_106 (lv' := [(5, .int (nI (k))), (4, .int (zI (totZ (paidZ S) g k))), (0, .ref 0), (1, .int (nI (g))), (2, .int (nI (4))), (3, .int (nI (bgTo S.ow g 5)))]) (st' := [.int (nI (5)), .int (nI (k))]) (w2 := modW 0 S ((X.rf, wo, ta, (owF S), 0, X.sh, X.lt, X.ty, X.pl, X.nu, X.od, X.tt, X.oo, X.on, (wonZ S), (paidZ S), X.li, X.rr, X.rn, X.dr) : ModN) K) rfl ?_
      refine ev_icmp_ge_n (tgt := 140) (by omega) (by decide) dX7_group_106 (by decide) (fun h106 => (by exfalso; omega)) (fun h106 => ?_)
      refine ev_b bX7_group_109_114 (lv' := [(5, .int (nI (k))), (4, .int (zI (totZ (paidZ S) g k))), (0, .ref 0), (1, .int (nI (g))), (2, .int (nI (4))), (3, .int (nI (bgTo S.ow g 5)))]) (st' := [.int (nI (k)), .int (nI (g)), .int (zI (totZ (paidZ S) g k))]) (w2 := modW 0 S ((X.rf, wo, ta, (owF S), 0, X.sh, X.lt, X.ty, X.pl, X.nu, X.od, X.tt, X.oo, X.on, (wonZ S), (paidZ S), X.li, X.rr, X.rn, X.dr) : ModN) K) rfl ?_
      refine ev_callS (Yc := mX7_has) [] dX7_group_114 tw_1057 kX7_has (m_X7_has g k (by omega) (by omega)) rfl (st := [.int (zI (totZ (paidZ S) g k))]) rfl (by decide) rfl (by decide) (Nat.le_of_ble_eq_true rfl) (Nat.le_refl _) (Nat.le_refl _) (fun r w' h => by obtain ⟨-, rfl⟩ := h; exact Nat.le_of_ble_eq_true rfl) ?_
      rintro _ _ ⟨rfl, rfl⟩
      refine ev_eq (lv' := [(5, .int (nI (k))), (4, .int (zI (totZ (paidZ S) g k))), (0, .ref 0), (1, .int (nI (g))), (2, .int (nI (4))), (3, .int (nI (bgTo S.ow g 5)))]) (st' := [.int (nI (b01 (g.testBit k = true))), .int (zI (totZ (paidZ S) g k))]) (w' := modW 0 S ((X.rf, wo, ta, (owF S), 0, X.sh, X.lt, X.ty, X.pl, X.nu, X.od, X.tt, X.oo, X.on, (wonZ S), (paidZ S), X.li, X.rr, X.rn, X.dr) : ModN) K) rfl rfl rfl ?_
      refine ev_ifeq_b (tgt := 130) dX7_group_117 (by decide) (fun h117 => ?_) (fun h117 => ?_)
      · skip
        refine ev_b bX7_group_130_131 (lv' := [(5, .int (nI (k))), (4, .int (zI (totZ (paidZ S) g k))), (0, .ref 0), (1, .int (nI (g))), (2, .int (nI (4))), (3, .int (nI (bgTo S.ow g 5)))]) (st' := [.int (nI (0)), .int (zI (totZ (paidZ S) g k))]) (w2 := modW 0 S ((X.rf, wo, ta, (owF S), 0, X.sh, X.lt, X.ty, X.pl, X.nu, X.od, X.tt, X.oo, X.on, (wonZ S), (paidZ S), X.li, X.rr, X.rn, X.dr) : ModN) K) rfl ?_
        refine ev_top (y := zI (((0 : Nat) : Int))) (zI_nat _).symm ?_
        refine ev_iadd_z dX7_group_131 ?_
        refine ev_b bX7_group_132_134 (lv' := [(4, .int (zI ((totZ (paidZ S) g k) + (((0 : Nat) : Int))))), (5, .int (nI (k))), (0, .ref 0), (1, .int (nI (g))), (2, .int (nI (4))), (3, .int (nI (bgTo S.ow g 5)))]) (st' := []) (w2 := modW 0 S ((X.rf, wo, ta, (owF S), 0, X.sh, X.lt, X.ty, X.pl, X.nu, X.od, X.tt, X.oo, X.on, (wonZ S), (paidZ S), X.li, X.rr, X.rn, X.dr) : ModN) K) rfl ?_
        refine ev_iinc_n (x := k) (v := 1) dX7_group_134 rfl (by decide) ?_
        refine ev_eq (lv' := [(5, .int (nI (k + 1))), (4, .int (zI ((totZ (paidZ S) g k) + (((0 : Nat) : Int))))), (0, .ref 0), (1, .int (nI (g))), (2, .int (nI (4))), (3, .int (nI (bgTo S.ow g 5)))]) rfl rfl rfl ?_
        refine ev_b bX7_group_137_103 (lv' := [(5, .int (nI (k + 1))), (4, .int (zI ((totZ (paidZ S) g k) + (((0 : Nat) : Int))))), (0, .ref 0), (1, .int (nI (g))), (2, .int (nI (4))), (3, .int (nI (bgTo S.ow g 5)))]) (st' := []) (w2 := modW 0 S ((X.rf, wo, ta, (owF S), 0, X.sh, X.lt, X.ty, X.pl, X.nu, X.od, X.tt, X.oo, X.on, (wonZ S), (paidZ S), X.li, X.rr, X.rn, X.dr) : ModN) K) rfl ?_
        rw [show nI (k + 1) = nI ((k + 1)) from congrArg nI (by omega)]
        rw [show zI ((totZ (paidZ S) g k) + (((0 : Nat) : Int))) = zI (totZ (paidZ S) g (k + 1)) from congrArg zI (by rw [totZ_s]; first | (rw [b01_t h117]; omega) | (rw [b01_f h117]; omega))]
        exact ih103 (k + 1) (by omega) 
      · skip
        refine ev_b bX7_group_120_126 (lv' := [(5, .int (nI (k))), (4, .int (zI (totZ (paidZ S) g k))), (0, .ref 0), (1, .int (nI (g))), (2, .int (nI (4))), (3, .int (nI (bgTo S.ow g 5)))]) (st' := [.int (nI (k)), .ref 17, .int (zI (totZ (paidZ S) g k))]) (w2 := modW 0 S ((X.rf, wo, ta, (owF S), 0, X.sh, X.lt, X.ty, X.pl, X.nu, X.od, X.tt, X.oo, X.on, (wonZ S), (paidZ S), X.li, X.rr, X.rn, X.dr) : ModN) K) rfl ?_
        refine ev_iald_z (f := (paidZ S)) dX7_group_126 rfl (by omega) (by decide) ?_
        refine ev_b bX7_group_127_131 (lv' := [(5, .int (nI (k))), (4, .int (zI (totZ (paidZ S) g k))), (0, .ref 0), (1, .int (nI (g))), (2, .int (nI (4))), (3, .int (nI (bgTo S.ow g 5)))]) (st' := [.int (zI (((paidZ S)) k)), .int (zI (totZ (paidZ S) g k))]) (w2 := modW 0 S ((X.rf, wo, ta, (owF S), 0, X.sh, X.lt, X.ty, X.pl, X.nu, X.od, X.tt, X.oo, X.on, (wonZ S), (paidZ S), X.li, X.rr, X.rn, X.dr) : ModN) K) rfl ?_
        refine ev_iadd_z dX7_group_131 ?_
        refine ev_b bX7_group_132_134 (lv' := [(4, .int (zI ((totZ (paidZ S) g k) + (((paidZ S)) k)))), (5, .int (nI (k))), (0, .ref 0), (1, .int (nI (g))), (2, .int (nI (4))), (3, .int (nI (bgTo S.ow g 5)))]) (st' := []) (w2 := modW 0 S ((X.rf, wo, ta, (owF S), 0, X.sh, X.lt, X.ty, X.pl, X.nu, X.od, X.tt, X.oo, X.on, (wonZ S), (paidZ S), X.li, X.rr, X.rn, X.dr) : ModN) K) rfl ?_
        refine ev_iinc_n (x := k) (v := 1) dX7_group_134 rfl (by decide) ?_
        refine ev_eq (lv' := [(5, .int (nI (k + 1))), (4, .int (zI ((totZ (paidZ S) g k) + (((paidZ S)) k)))), (0, .ref 0), (1, .int (nI (g))), (2, .int (nI (4))), (3, .int (nI (bgTo S.ow g 5)))]) rfl rfl rfl ?_
        refine ev_b bX7_group_137_103 (lv' := [(5, .int (nI (k + 1))), (4, .int (zI ((totZ (paidZ S) g k) + (((paidZ S)) k)))), (0, .ref 0), (1, .int (nI (g))), (2, .int (nI (4))), (3, .int (nI (bgTo S.ow g 5)))]) (st' := []) (w2 := modW 0 S ((X.rf, wo, ta, (owF S), 0, X.sh, X.lt, X.ty, X.pl, X.nu, X.od, X.tt, X.oo, X.on, (wonZ S), (paidZ S), X.li, X.rr, X.rn, X.dr) : ModN) K) rfl ?_
        rw [show nI (k + 1) = nI ((k + 1)) from congrArg nI (by omega)]
        rw [show zI ((totZ (paidZ S) g k) + (((paidZ S)) k)) = zI (totZ (paidZ S) g (k + 1)) from congrArg zI (by rw [totZ_s]; first | (rw [b01_t h117]; omega) | (rw [b01_f h117]; omega))]
        exact ih103 (k + 1) (by omega) 
  refine ev_pick (lv' := [(5, .int (nI (0))), (4, .int (nI (0))), (0, .ref 0), (1, .int (nI (g))), (2, .int (nI (4))), (3, .int (nI (bgTo S.ow g 5)))]) rfl ?_
  rw [show nI (0) = zI (totZ (paidZ S) g 0) from by rw [← zI_nat]; exact congrArg zI (by exact rfl)]
  exact L103 5 0 (by omega) 
