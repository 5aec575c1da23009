theorem cch_stale {F : SaleN} {X : ModN} (h : X.sl = 1) : Cch F X := ⟨by omega, fun z => absurd z (by omega)⟩
theorem bX7_winsBy_0_5 {l : Launch} {E : XE} : Snd l E mX7_winsBy 0 5 (xs [x_aload 0, x_get 8 5, x_iload 1]) := Snd.cons (snd_aload_n (i := 0) dX7_winsBy_0 rfl) (Snd.cons (snd_get (ci := 8) (k := 5) dX7_winsBy_1 rfl inX7 (by decide) tw_919) (Snd.cons (snd_iload_n (i := 1) dX7_winsBy_4 rfl) Snd.nil))
theorem bX7_winsBy_6_13 {l : Launch} {E : XE} : Snd l E mX7_winsBy 6 13 (xs [x_istore 3, x_aload 0, x_get 8 5, x_iload 1, x_iload 2]) := Snd.cons (snd_istore_n (i := 3) dX7_winsBy_6 rfl (by decide)) (Snd.cons (snd_aload_n (i := 0) dX7_winsBy_7 rfl) (Snd.cons (snd_get (ci := 8) (k := 5) dX7_winsBy_8 rfl inX7 (by decide) tw_919) (Snd.cons (snd_iload_n (i := 1) dX7_winsBy_11 rfl) (Snd.cons (snd_iload_n (i := 2) dX7_winsBy_12 rfl) Snd.nil))))
theorem bX7_winsBy_14_16 {l : Launch} {E : XE} : Snd l E mX7_winsBy 14 16 (xs [x_aload 0, x_push (.int (nI 1))]) := Snd.cons (snd_aload_n (i := 0) dX7_winsBy_14 rfl) (Snd.cons (snd_iconst (v := nI 1) dX7_winsBy_15 (by decide)) Snd.nil)
theorem bX7_winsBy_19_20 {l : Launch} {E : XE} : Snd l E mX7_winsBy 19 20 (xs [x_aload 0]) := Snd.cons (snd_aload_n (i := 0) dX7_winsBy_19 rfl) Snd.nil
theorem bX7_winsBy_23_24 {l : Launch} {E : XE} : Snd l E mX7_winsBy 23 24 (xs [x_iload 1]) := Snd.cons (snd_iload_n (i := 1) dX7_winsBy_23 rfl) Snd.nil
theorem bX7_winsBy_27_35 {l : Launch} {E : XE} : Snd l E mX7_winsBy 27 35 (xs [x_istore 4, x_aload 0, x_get 8 5, x_iload 1, x_iload 3]) := Snd.cons (snd_istore dX7_winsBy_27 (by decide)) (Snd.cons (snd_aload_n (i := 0) dX7_winsBy_29 rfl) (Snd.cons (snd_get (ci := 8) (k := 5) dX7_winsBy_30 rfl inX7 (by decide) tw_919) (Snd.cons (snd_iload_n (i := 1) dX7_winsBy_33 rfl) (Snd.cons (snd_iload_n (i := 3) dX7_winsBy_34 rfl) Snd.nil))))
theorem bX7_winsBy_36_38 {l : Launch} {E : XE} : Snd l E mX7_winsBy 36 38 (xs [x_aload 0, x_push (.int (nI 1))]) := Snd.cons (snd_aload_n (i := 0) dX7_winsBy_36 rfl) (Snd.cons (snd_iconst (v := nI 1) dX7_winsBy_37 (by decide)) Snd.nil)
theorem bX7_winsBy_41_43 {l : Launch} {E : XE} : Snd l E mX7_winsBy 41 43 (xs [x_iload 4]) := Snd.cons (snd_iload dX7_winsBy_41) Snd.nil
set_option maxHeartbeats 4000000 in
set_option maxRecDepth 100000 in
theorem m_X7_winsBy {l : Launch} {E : XE} (S : SaleN) (X : ModN) (K : Option (Nat → Nat)) (b v : Nat) (hS : SaleOK S) (hsh : X.sh = -9) (hb : b < S.ca) (hv : v ≤ 99) : MetE l E mX7_winsBy (6) 0 0 [.ref 0, .int (nI (b)), .int (nI (v))] (modW 0 S X K) (fun r w' => r = some (.int (nI (b01 ((winB (priceS S b v) 1023).testBit b = true)))) ∧ ∃ (wo ta : Nat → Int) (ow : Nat → Nat), w' = modW 0 S ((X.rf, wo, ta, ow, 1, X.sh, X.lt, X.ty, X.pl, X.nu, X.od, X.tt, X.oo, X.on, X.wn, X.pd, X.li, X.rr, X.rn, X.dr) : ModN) K) := by
  refine MetE.of (by decide +kernel) (Nat.le_of_ble_eq_true rfl) ?_
  have hca := hS.1
  have hU : SaleOK (priceS S b v) := price_ok hS hv
  refine ev_eq (lv' := [(0, .ref 0), (1, .int (nI (b))), (2, .int (nI (v)))]) (st' := []) (w' := modW 0 S X K) rfl rfl rfl ?_
  refine ev_b bX7_winsBy_0_5 (lv' := [(0, .ref 0), (1, .int (nI (b))), (2, .int (nI (v)))]) (st' := [.int (nI (b)), .ref 6]) (w2 := modW 0 S X K) rfl ?_
  refine ev_iald_n (f := S.pr) dX7_winsBy_5 rfl (by omega) (by decide) ?_
  refine ev_b bX7_winsBy_6_13 (lv' := [(3, .int (nI (S.pr b))), (0, .ref 0), (1, .int (nI (b))), (2, .int (nI (v)))]) (st' := [.int (nI (v)), .int (nI (b)), .ref 6]) (w2 := modW 0 S X K) rfl ?_
  refine ev_iast_n (f := S.pr) dX7_winsBy_13 rfl (by omega) (by decide) ?_
  refine ev_eq (w' := modW 0 ((S.bd, S.st, up S.pr b v, S.ow, S.kd, S.fg, S.rs, S.ca, S.ac) : SaleN) X K) rfl rfl rfl ?_
  refine ev_b bX7_winsBy_14_16 (lv' := [(3, .int (nI (S.pr b))), (0, .ref 0), (1, .int (nI (b))), (2, .int (nI (v)))]) (st' := [.int (nI (1)), .ref 0]) (w2 := modW 0 ((S.bd, S.st, up S.pr b v, S.ow, S.kd, S.fg, S.rs, S.ca, S.ac) : SaleN) X K) rfl ?_
  refine snd_put (ci := 8) (k := 12) (a := 0) dX7_winsBy_16 rfl inX7 tyX7_ok nmX7 (by decide) tw_926 rfl rfl (Nat.le_of_ble_eq_true rfl) (fun _ => rfl) (fun _ => rfl) ?_
  refine ev_eq (w' := modW 0 ((S.bd, S.st, up S.pr b v, S.ow, S.kd, S.fg, S.rs, S.ca, S.ac) : SaleN) ((X.rf, X.wo, X.ta, X.ow, 1, X.sh, X.lt, X.ty, X.pl, X.nu, X.od, X.tt, X.oo, X.on, X.wn, X.pd, X.li, X.rr, X.rn, X.dr) : ModN) K) rfl rfl rfl ?_
  refine ev_b bX7_winsBy_19_20 (lv' := [(3, .int (nI (S.pr b))), (0, .ref 0), (1, .int (nI (b))), (2, .int (nI (v)))]) (st' := [.ref 0]) (w2 := modW 0 ((S.bd, S.st, up S.pr b v, S.ow, S.kd, S.fg, S.rs, S.ca, S.ac) : SaleN) ((X.rf, X.wo, X.ta, X.ow, 1, X.sh, X.lt, X.ty, X.pl, X.nu, X.od, X.tt, X.oo, X.on, X.wn, X.pd, X.li, X.rr, X.rn, X.dr) : ModN) K) rfl ?_
  refine ev_callM (Yc := mX7_winnersNow) (st := []) dX7_winsBy_20 tw_1104 kX7_winnersNow (m_X7_winnersNow_g (priceS S b v) S.kd S.fg ((X.rf, X.wo, X.ta, X.ow, 1, X.sh, X.lt, X.ty, X.pl, X.nu, X.od, X.tt, X.oo, X.on, X.wn, X.pd, X.li, X.rr, X.rn, X.dr) : ModN) K hU (kf_self hsh) (cch_stale rfl)) rfl rfl rfl rfl (by decide) (Nat.le_of_ble_eq_true rfl) (Nat.le_refl _) (Nat.le_refl _) (fun r w' h => by obtain ⟨-, wo, ta, ow, rfl, -⟩ := h; exact mod_eq) ?_
  rintro _ _ ⟨rfl, wo, ta, ow, rfl, hT⟩
  refine ev_eq (lv' := [(3, .int (nI (S.pr b))), (0, .ref 0), (1, .int (nI (b))), (2, .int (nI (v)))]) (st' := [.int (nI (winB (priceS S b v) 1023))]) (w' := modW 0 ((S.bd, S.st, up S.pr b v, S.ow, S.kd, S.fg, S.rs, S.ca, S.ac) : SaleN) ((X.rf, wo, ta, ow, 0, X.sh, X.lt, X.ty, X.pl, X.nu, X.od, X.tt, X.oo, X.on, X.wn, X.pd, X.li, X.rr, X.rn, X.dr) : ModN) K) rfl rfl rfl ?_
  have hwb := winB_lt hU 1023
  refine ev_b bX7_winsBy_23_24 (lv' := [(3, .int (nI (S.pr b))), (0, .ref 0), (1, .int (nI (b))), (2, .int (nI (v)))]) (st' := [.int (nI (b)), .int (nI (winB (priceS S b v) 1023))]) (w2 := modW 0 ((S.bd, S.st, up S.pr b v, S.ow, S.kd, S.fg, S.rs, S.ca, S.ac) : SaleN) ((X.rf, wo, ta, ow, 0, X.sh, X.lt, X.ty, X.pl, X.nu, X.od, X.tt, X.oo, X.on, X.wn, X.pd, X.li, X.rr, X.rn, X.dr) : ModN) K) rfl ?_
  refine ev_callS (Yc := mX7_has) [] dX7_winsBy_24 tw_1057 kX7_has (m_X7_has (winB (priceS S b v) 1023) b (by omega) (by omega)) rfl (st := []) rfl (by decide) rfl (by decide) (Nat.le_of_ble_eq_true rfl) (Nat.le_refl _) (Nat.le_refl _) (fun r w' h => by obtain ⟨-, rfl⟩ := h; exact Nat.le_of_ble_eq_true rfl) ?_
  rintro _ _ ⟨rfl, rfl⟩
  refine ev_eq (lv' := [(3, .int (nI (S.pr b))), (0, .ref 0), (1, .int (nI (b))), (2, .int (nI (v)))]) (st' := [.int (nI (b01 ((winB (priceS S b v) 1023).testBit b = true)))]) (w' := modW 0 ((S.bd, S.st, up S.pr b v, S.ow, S.kd, S.fg, S.rs, S.ca, S.ac) : SaleN) ((X.rf, wo, ta, ow, 0, X.sh, X.lt, X.ty, X.pl, X.nu, X.od, X.tt, X.oo, X.on, X.wn, X.pd, X.li, X.rr, X.rn, X.dr) : ModN) K) rfl rfl rfl ?_
  refine ev_b bX7_winsBy_27_35 (lv' := [(4, .int (nI (b01 ((winB (priceS S b v) 1023).testBit b = true)))), (3, .int (nI (S.pr b))), (0, .ref 0), (1, .int (nI (b))), (2, .int (nI (v)))]) (st' := [.int (nI (S.pr b)), .int (nI (b)), .ref 6]) (w2 := modW 0 ((S.bd, S.st, up S.pr b v, S.ow, S.kd, S.fg, S.rs, S.ca, S.ac) : SaleN) ((X.rf, wo, ta, ow, 0, X.sh, X.lt, X.ty, X.pl, X.nu, X.od, X.tt, X.oo, X.on, X.wn, X.pd, X.li, X.rr, X.rn, X.dr) : ModN) K) rfl ?_
  refine ev_iast_n (f := up S.pr b v) dX7_winsBy_35 rfl (by omega) (by decide) ?_
  refine ev_eq (w' := modW 0 ((S.bd, S.st, up (up S.pr b v) b (S.pr b), S.ow, S.kd, S.fg, S.rs, S.ca, S.ac) : SaleN) ((X.rf, wo, ta, ow, 0, X.sh, X.lt, X.ty, X.pl, X.nu, X.od, X.tt, X.oo, X.on, X.wn, X.pd, X.li, X.rr, X.rn, X.dr) : ModN) K) rfl rfl rfl ?_
  refine ev_eq (w' := modW 0 S ((X.rf, wo, ta, ow, 0, X.sh, X.lt, X.ty, X.pl, X.nu, X.od, X.tt, X.oo, X.on, X.wn, X.pd, X.li, X.rr, X.rn, X.dr) : ModN) K) rfl rfl (by rw [up_back] <;> rfl) ?_
  refine ev_b bX7_winsBy_36_38 (lv' := [(4, .int (nI (b01 ((winB (priceS S b v) 1023).testBit b = true)))), (3, .int (nI (S.pr b))), (0, .ref 0), (1, .int (nI (b))), (2, .int (nI (v)))]) (st' := [.int (nI (1)), .ref 0]) (w2 := modW 0 S ((X.rf, wo, ta, ow, 0, X.sh, X.lt, X.ty, X.pl, X.nu, X.od, X.tt, X.oo, X.on, X.wn, X.pd, X.li, X.rr, X.rn, X.dr) : ModN) K) rfl ?_
  refine snd_put (ci := 8) (k := 12) (a := 0) dX7_winsBy_38 rfl inX7 tyX7_ok nmX7 (by decide) tw_926 rfl rfl (Nat.le_of_ble_eq_true rfl) (fun _ => rfl) (fun _ => rfl) ?_
  refine ev_eq (w' := modW 0 S ((X.rf, wo, ta, ow, 1, X.sh, X.lt, X.ty, X.pl, X.nu, X.od, X.tt, X.oo, X.on, X.wn, X.pd, X.li, X.rr, X.rn, X.dr) : ModN) K) rfl rfl rfl ?_
  refine ev_b bX7_winsBy_41_43 (lv' := [(4, .int (nI (b01 ((winB (priceS S b v) 1023).testBit b = true)))), (3, .int (nI (S.pr b))), (0, .ref 0), (1, .int (nI (b))), (2, .int (nI (v)))]) (st' := [.int (nI (b01 ((winB (priceS S b v) 1023).testBit b = true)))]) (w2 := modW 0 S ((X.rf, wo, ta, ow, 1, X.sh, X.lt, X.ty, X.pl, X.nu, X.od, X.tt, X.oo, X.on, X.wn, X.pd, X.li, X.rr, X.rn, X.dr) : ModN) K) rfl ?_
  exact ev_zret dX7_winsBy_43 rfl b01_nar mod_le (Nat.le_refl _) (Nat.le_refl _) ⟨rfl, wo, ta, ow, rfl⟩
theorem bX7_least_0_2 {l : Launch} {E : XE} : Snd l E mX7_least 0 2 (xs [x_aload 0, x_iload 1]) := Snd.cons (snd_aload_n (i := 0) dX7_least_0 rfl) (Snd.cons (snd_iload_n (i := 1) dX7_least_1 rfl) Snd.nil)
theorem bX7_least_8_10 {l : Launch} {E : XE} : Snd l E mX7_least 8 10 (xs [x_aload 0, x_push (.int (-1))]) := Snd.cons (snd_aload_n (i := 0) dX7_least_8 rfl) (Snd.cons (snd_iconst (v := -1) dX7_least_9 (by decide)) Snd.nil)
set_option maxHeartbeats 4000000 in
set_option maxRecDepth 100000 in
theorem q_least_1 {l : Launch} {E : XE} (S : SaleN) (X : ModN) (K : Option (Nat → Nat)) (z1 : Int) (hS : SaleOK S) (hM : MOK S X) (rz1 : -2147483648 ≤ z1 ∧ z1 < 2147483648) (h : ¬ (0 ≤ z1 ∧ z1 < S.ca)) : MetE l E mX7_least (2) 0 0 [.ref 0, .int (zI (z1))] (modW 0 S X K) (MP S K (X.lt) (X.ty) (X.rr) (X.rn) ((up X.rf 1 (X.rf 1 + 1))) (some (.int (-1)))) := by
  refine MetE.of (by decide +kernel) (Nat.le_of_ble_eq_true rfl) ?_
  have hca := hS.1
  have hpw := pow_ca hS
  have hac := ac_lt hS
  have hshl := shl_le hS
  
  refine ev_eq (lv' := [(0, .ref 0), (1, .int (zI (z1)))]) (st' := []) (w' := modW 0 S X K) rfl rfl rfl ?_
  refine ev_b bX7_least_0_2 (lv' := [(0, .ref 0), (1, .int (zI (z1)))]) (st' := [.int (zI (z1)), .ref 0]) (w2 := modW 0 S X K) rfl ?_
  refine ev_callM (Yc := mX7_isBid) (st := []) dX7_least_2 tw_1084 kX7_isBid (m_X7_isBid_z S X K z1 hca rz1) rfl rfl rfl rfl (by decide) (Nat.le_of_ble_eq_true rfl) (Nat.le_refl _) (Nat.le_refl _) (fun r w' h => by obtain ⟨-, rfl⟩ := h; exact mod_eq) ?_
  rintro _ _ ⟨rfl, rfl⟩
  refine ev_eq (lv' := [(0, .ref 0), (1, .int (zI (z1)))]) (st' := [.int (nI (b01 (0 ≤ z1 ∧ z1 < S.ca)))]) (w' := modW 0 S X K) rfl rfl rfl ?_
  refine ev_ifne_b (tgt := 14) dX7_least_5 (by decide) (fun h5 => (by exfalso; omega)) (fun h5 => ?_)
  refine ev_b bX7_least_8_10 (lv' := [(0, .ref 0), (1, .int (zI (z1)))]) (st' := [.int (-1), .ref 0]) (w2 := modW 0 S X K) rfl ?_
  refine ev_callM (Yc := mX7_refuses) (st := []) dX7_least_10 tw_1012 kX7_refuses (m_X7_refuses_1 S X K) rfl rfl rfl rfl (by decide) (Nat.le_of_ble_eq_true rfl) (Nat.le_refl _) (Nat.le_refl _) (fun r w' h => by obtain ⟨-, rfl⟩ := h; exact mod_eq) ?_
  rintro _ _ ⟨rfl, rfl⟩
  refine ev_eq (lv' := [(0, .ref 0), (1, .int (zI (z1)))]) (st' := [.int (-1)]) (w' := modW 0 S (((up X.rf 1 (X.rf 1 + 1)), X.wo, X.ta, X.ow, X.sl, X.sh, X.lt, X.ty, X.pl, X.nu, X.od, X.tt, X.oo, X.on, X.wn, X.pd, X.li, X.rr, X.rn, X.dr) : ModN) K) rfl rfl rfl ?_
  exact ev_iret dX7_least_13 rfl mod_le (Nat.le_refl _) (Nat.le_refl _) ⟨rfl, _, rfl, hM, rfl, rfl, rfl, rfl, rfl⟩
theorem bX7_least_14_26 {l : Launch} {E : XE} : Snd l E mX7_least 14 26 (xs [x_aload 0, x_get 8 7, x_istore 2, x_aload 0, x_dup, x_get 8 7, x_push (.int (nI 1)), x_iload 1]) := Snd.cons (snd_aload_n (i := 0) dX7_least_14 rfl) (Snd.cons (snd_get (ci := 8) (k := 7) dX7_least_15 rfl inX7 (by decide) tw_921) (Snd.cons (snd_istore_n (i := 2) dX7_least_18 rfl (by decide)) (Snd.cons (snd_aload_n (i := 0) dX7_least_19 rfl) (Snd.cons (snd_dup dX7_least_20) (Snd.cons (snd_get (ci := 8) (k := 7) dX7_least_21 rfl inX7 (by decide) tw_921) (Snd.cons (snd_iconst (v := nI 1) dX7_least_24 (by decide)) (Snd.cons (snd_iload_n (i := 1) dX7_least_25 rfl) Snd.nil)))))))
theorem bX7_least_28_34 {l : Launch} {E : XE} : Snd l E mX7_least 28 34 (xs [x_puti 8 7, x_push (.int (-9)), x_istore 3]) := Snd.cons (snd_puti (ci := 8) (k := 7) dX7_least_28 rfl inX7 tyX7_ok nmX7 (by decide) tw_921 rfl rfl) (Snd.cons (snd_bipush (v := -9) dX7_least_31 (by decide)) (Snd.cons (snd_istore_n (i := 3) dX7_least_33 rfl (by decide)) Snd.nil))
theorem bX7_least_34_37 {l : Launch} {E : XE} : Snd l E mX7_least 34 37 (xs [x_push (.int (nI 1)), x_istore 4]) := Snd.cons (snd_iconst (v := nI 1) dX7_least_34 (by decide)) (Snd.cons (snd_istore dX7_least_35 (by decide)) Snd.nil)
theorem bX7_least_37_41 {l : Launch} {E : XE} : Snd l E mX7_least 37 41 (xs [x_iload 4, x_push (.int (nI 100))]) := Snd.cons (snd_iload dX7_least_37) (Snd.cons (snd_bipush (v := nI 100) dX7_least_39 (by decide)) Snd.nil)
theorem bX7_least_72_78 {l : Launch} {E : XE} : Snd l E mX7_least 72 78 (xs [x_aload 0, x_iload 2, x_puti 8 7, x_iload 3]) := Snd.cons (snd_aload_n (i := 0) dX7_least_72 rfl) (Snd.cons (snd_iload_n (i := 2) dX7_least_73 rfl) (Snd.cons (snd_puti (ci := 8) (k := 7) dX7_least_74 rfl inX7 tyX7_ok nmX7 (by decide) tw_921 rfl rfl) (Snd.cons (snd_iload_n (i := 3) dX7_least_77 rfl) Snd.nil)))
theorem bX7_least_44_45 {l : Launch} {E : XE} : Snd l E mX7_least 44 45 (xs [x_iload 3]) := Snd.cons (snd_iload_n (i := 3) dX7_least_44 rfl) Snd.nil
theorem bX7_least_48_52 {l : Launch} {E : XE} : Snd l E mX7_least 48 52 (xs [x_aload 0, x_iload 1, x_iload 4]) := Snd.cons (snd_aload_n (i := 0) dX7_least_48 rfl) (Snd.cons (snd_iload_n (i := 1) dX7_least_49 rfl) (Snd.cons (snd_iload dX7_least_50) Snd.nil))
theorem bX7_least_63_66 {l : Launch} {E : XE} : Snd l E mX7_least 63 66 (xs [x_push (.int (-9)), x_istore 3]) := Snd.cons (snd_bipush (v := -9) dX7_least_63 (by decide)) (Snd.cons (snd_istore_n (i := 3) dX7_least_65 rfl (by decide)) Snd.nil)
theorem bX7_least_69_37 {l : Launch} {E : XE} : Snd l E mX7_least 69 37 (xs [x_id]) := Snd.cons (snd_goto (tgt := 37) dX7_least_69 (by decide)) Snd.nil
theorem bX7_least_58_66 {l : Launch} {E : XE} : Snd l E mX7_least 58 66 (xs [x_iload 4, x_id, x_istore 3]) := Snd.cons (snd_iload dX7_least_58) (Snd.cons (snd_goto (tgt := 65) dX7_least_60 (by decide)) (Snd.cons (snd_istore_n (i := 3) dX7_least_65 rfl (by decide)) Snd.nil))
set_option maxHeartbeats 4000000 in
set_option maxRecDepth 100000 in
theorem q_least_ok {l : Launch} {E : XE} (S : SaleN) (X : ModN) (K : Option (Nat → Nat)) (b : Nat) (hS : SaleOK S) (hM : MOK S X) (hb : b < S.ca) : MetE l E mX7_least (7) 0 0 [.ref 0, .int (nI (b))] (modW 0 S X K) (MP S K (X.lt) (X.ty) (X.rr) (X.rn) (X.rf) (some (.int (zI (leZ S b 99 0))))) := by
  refine MetE.of (by decide +kernel) (Nat.le_of_ble_eq_true rfl) ?_
  have hca := hS.1
  have hpw := pow_ca hS
  have hac := ac_lt hS
  have hshl := shl_le hS
  
  refine ev_eq (lv' := [(0, .ref 0), (1, .int (nI (b)))]) (st' := []) (w' := modW 0 S X K) rfl rfl rfl ?_
  refine ev_b bX7_least_0_2 (lv' := [(0, .ref 0), (1, .int (nI (b)))]) (st' := [.int (nI (b)), .ref 0]) (w2 := modW 0 S X K) rfl ?_
  refine ev_callM (Yc := mX7_isBid) (st := []) dX7_least_2 tw_1084 kX7_isBid (m_X7_isBid_n S X K b hca (by omega)) rfl rfl rfl rfl (by decide) (Nat.le_of_ble_eq_true rfl) (Nat.le_refl _) (Nat.le_refl _) (fun r w' h => by obtain ⟨-, rfl⟩ := h; exact mod_eq) ?_
  rintro _ _ ⟨rfl, rfl⟩
  refine ev_eq (lv' := [(0, .ref 0), (1, .int (nI (b)))]) (st' := [.int (nI (b01 (b < S.ca)))]) (w' := modW 0 S X K) rfl rfl rfl ?_
  refine ev_ifne_b (tgt := 14) dX7_least_5 (by decide) (fun h5 => ?_) (fun h5 => (by exfalso; omega))
  refine ev_b bX7_least_14_26 (lv' := [(2, .int (nI (S.ac))), (0, .ref 0), (1, .int (nI (b)))]) (st' := [.int (nI (b)), .int (nI (1)), .int (nI (S.ac)), .ref 0]) (w2 := modW 0 S X K) rfl ?_
  refine ev_ishl_n (by omega) dX7_least_26 ?_
  refine ev_ior_n dX7_least_27 ?_
  refine ev_b bX7_least_28_34 (lv' := [(3, .int (-9)), (2, .int (nI (S.ac))), (0, .ref 0), (1, .int (nI (b)))]) (st' := []) (w2 := modW 0 ((S.bd, S.st, S.pr, S.ow, S.kd, S.fg, S.rs, S.ca, S.ac ||| (1 <<< b)) : SaleN) X K) rfl ?_
  refine ev_eq (lv' := [(3, .int (zI (-9))), (2, .int (nI (S.ac))), (0, .ref 0), (1, .int (nI (b)))]) (by rw [show (-9 : Int32) = zI (-9) from by decide]) rfl rfl ?_
  refine ev_b bX7_least_34_37 (lv' := [(4, .int (nI (1))), (3, .int (zI (-9))), (2, .int (nI (S.ac))), (0, .ref 0), (1, .int (nI (b)))]) (st' := []) (w2 := modW 0 ((S.bd, S.st, S.pr, S.ow, S.kd, S.fg, S.rs, S.ca, S.ac ||| (1 <<< b)) : SaleN) X K) rfl ?_
  have L37 : ∀ (j_ k : Nat), k + j_ = 99 → ∀ (i : Int) (X1 : ModN), (MOK S X1 ∧ XK X1 X ∧ ((i = -9 ∧ leZ S b 99 0 = leZ S b (99 - k) k) ∨ (0 ≤ i ∧ i ≤ 99 ∧ leZ S b 99 0 = i))) → Ev l E mX7_least (7) 0 0 (modW 0 S X K) (MP S K (X.lt) (X.ty) (X.rr) (X.rn) (X.rf) (some (.int (zI (leZ S b 99 0))))) 0 0 37 [(4, .int (nI (k + 1))), (3, .int (zI (i))), (0, .ref 0), (1, .int (nI (b))), (2, .int (nI (S.ac)))] [] (modW 0 ((S.bd, S.st, S.pr, S.ow, S.kd, S.fg, S.rs, S.ca, (S.ac ||| 1 <<< b)) : SaleN) X1 K) := by
    intro j_
    induction j_ with
    | zero =>
      intro k hk37 i X1 hinv37
      replace hk37 : k = 99 := hk37
      refine ev_b bX7_least_37_41 (lv' := [(4, .int (nI (k + 1))), (3, .int (zI (i))), (0, .ref 0), (1, .int (nI (b))), (2, .int (nI (S.ac)))]) (st' := [.int (nI (100)), .int (nI (k + 1))]) (w2 := modW 0 ((S.bd, S.st, S.pr, S.ow, S.kd, S.fg, S.rs, S.ca, (S.ac ||| 1 <<< b)) : SaleN) X1 K) rfl ?_
      refine ev_icmp_ge_n (tgt := 72) (by omega) (by decide) dX7_least_41 (by decide) (fun h41 => ?_) (fun h41 => (by exfalso; omega))
      have hfin : i = leZ S b 99 0 := by
        rcases hinv37.2.2 with ⟨h1, h2⟩ | ⟨h1, h2, h3⟩
        · first | (exfalso; omega) | (rw [h2, h1, hk37]; rfl)
        · exact h3.symm
      refine ev_b bX7_least_72_78 (lv' := [(4, .int (nI (k + 1))), (3, .int (zI (i))), (0, .ref 0), (1, .int (nI (b))), (2, .int (nI (S.ac)))]) (st' := [.int (zI (i))]) (w2 := modW 0 ((S.bd, S.st, S.pr, S.ow, S.kd, S.fg, S.rs, S.ca, S.ac) : SaleN) X1 K) rfl ?_
      exact ev_iret dX7_least_78 rfl mod_le (Nat.le_refl _) (Nat.le_refl _) ⟨congrArg (fun v => some (Value.int (zI v))) hfin, X1, rfl, hinv37.1, hinv37.2.1⟩
    | succ j_ ih37 =>
      intro k hk37 i X1 hinv37
      have hlt37 : k < 99 := by omega
      refine ev_b bX7_least_37_41 (lv' := [(4, .int (nI (k + 1))), (3, .int (zI (i))), (0, .ref 0), (1, .int (nI (b))), (2, .int (nI (S.ac)))]) (st' := [.int (nI (100)), .int (nI (k + 1))]) (w2 := modW 0 ((S.bd, S.st, S.pr, S.ow, S.kd, S.fg, S.rs, S.ca, (S.ac ||| 1 <<< b)) : SaleN) X1 K) rfl ?_
      refine ev_icmp_ge_n (tgt := 72) (by omega) (by decide) dX7_least_41 (by decide) (fun h41 => (by exfalso; omega)) (fun h41 => ?_)
      refine ev_b bX7_least_44_45 (lv' := [(4, .int (nI (k + 1))), (3, .int (zI (i))), (0, .ref 0), (1, .int (nI (b))), (2, .int (nI (S.ac)))]) (st' := [.int (zI (i))]) (w2 := modW 0 ((S.bd, S.st, S.pr, S.ow, S.kd, S.fg, S.rs, S.ca, (S.ac ||| 1 <<< b)) : SaleN) X1 K) rfl ?_
      refine ev_if_ge_z (tgt := 72) (by rcases hinv37.2.2 with ⟨h1, h2⟩ | ⟨h1, h2, h3⟩ <;> (constructor <;> omega)) dX7_least_45 (by decide) (fun h45 => ?_) (fun h45 => ?_)
      · skip
        have hfin : i = leZ S b 99 0 := by
          rcases hinv37.2.2 with ⟨h1, h2⟩ | ⟨h1, h2, h3⟩
          · first | (exfalso; omega) | (rw [h2, h1, hk37]; rfl)
          · exact h3.symm
        refine ev_b bX7_least_72_78 (lv' := [(4, .int (nI (k + 1))), (3, .int (zI (i))), (0, .ref 0), (1, .int (nI (b))), (2, .int (nI (S.ac)))]) (st' := [.int (zI (i))]) (w2 := modW 0 ((S.bd, S.st, S.pr, S.ow, S.kd, S.fg, S.rs, S.ca, S.ac) : SaleN) X1 K) rfl ?_
        exact ev_iret dX7_least_78 rfl mod_le (Nat.le_refl _) (Nat.le_refl _) ⟨congrArg (fun v => some (Value.int (zI v))) hfin, X1, rfl, hinv37.1, hinv37.2.1⟩
      · skip
        have hi9 := hinv37.2.2.resolve_right (fun z => by omega)
        have hst := le_step hi9.2 hlt37
        refine ev_b bX7_least_48_52 (lv' := [(4, .int (nI (k + 1))), (3, .int (zI (i))), (0, .ref 0), (1, .int (nI (b))), (2, .int (nI (S.ac)))]) (st' := [.int (nI (k + 1)), .int (nI (b)), .ref 0]) (w2 := modW 0 ((S.bd, S.st, S.pr, S.ow, S.kd, S.fg, S.rs, S.ca, (S.ac ||| 1 <<< b)) : SaleN) X1 K) rfl ?_
        refine ev_callM (Yc := mX7_winsBy) (st := []) dX7_least_52 tw_1274 kX7_winsBy (m_X7_winsBy ((S.bd, S.st, S.pr, S.ow, S.kd, S.fg, S.rs, S.ca, (S.ac ||| 1 <<< b)) : SaleN) X1 K b (k + 1) (on_ok hS hb) hinv37.1.1 hb (by omega)) rfl rfl rfl rfl (by decide) (Nat.le_of_ble_eq_true rfl) (Nat.le_refl _) (Nat.le_refl _) (fun r w' h => by obtain ⟨-, wo, ta, ow, rfl⟩ := h; exact mod_eq) ?_
        rintro _ _ ⟨rfl, wo, ta, ow, rfl⟩
        refine ev_eq (lv' := [(4, .int (nI (k + 1))), (3, .int (zI (i))), (0, .ref 0), (1, .int (nI (b))), (2, .int (nI (S.ac)))]) (st' := [.int (nI (b01 ((winB (leS S b (k + 1)) 1023).testBit b = true)))]) (w' := modW 0 ((S.bd, S.st, S.pr, S.ow, S.kd, S.fg, S.rs, S.ca, (S.ac ||| 1 <<< b)) : SaleN) ((X1.rf, wo, ta, ow, 1, X1.sh, X1.lt, X1.ty, X1.pl, X1.nu, X1.od, X1.tt, X1.oo, X1.on, X1.wn, X1.pd, X1.li, X1.rr, X1.rn, X1.dr) : ModN) K) rfl rfl rfl ?_
        refine ev_ifeq_b (tgt := 63) dX7_least_55 (by decide) (fun h55 => ?_) (fun h55 => ?_)
        · skip
          have hnext : ((-9 : Int) = -9 ∧ leZ S b 99 0 = leZ S b (99 - (k + 1)) (k + 1)) ∨ (0 ≤ (-9 : Int) ∧ (-9 : Int) ≤ 99 ∧ leZ S b 99 0 = -9) := Or.inl ⟨rfl, by rw [hst, if_neg h55]⟩
          refine ev_b bX7_least_63_66 (lv' := [(3, .int (-9)), (4, .int (nI (k + 1))), (0, .ref 0), (1, .int (nI (b))), (2, .int (nI (S.ac)))]) (st' := []) (w2 := modW 0 ((S.bd, S.st, S.pr, S.ow, S.kd, S.fg, S.rs, S.ca, (S.ac ||| 1 <<< b)) : SaleN) ((X1.rf, wo, ta, ow, 1, X1.sh, X1.lt, X1.ty, X1.pl, X1.nu, X1.od, X1.tt, X1.oo, X1.on, X1.wn, X1.pd, X1.li, X1.rr, X1.rn, X1.dr) : ModN) K) rfl ?_
          refine ev_eq (lv' := [(3, .int (zI (-9))), (4, .int (nI (k + 1))), (0, .ref 0), (1, .int (nI (b))), (2, .int (nI (S.ac)))]) (by rw [show (-9 : Int32) = zI (-9) from by decide]) rfl rfl ?_
          refine ev_iinc_n (x := k + 1) (v := 1) dX7_least_66 rfl (by decide) ?_
          refine ev_eq (lv' := [(4, .int (nI ((k + 1) + 1))), (3, .int (zI (-9))), (0, .ref 0), (1, .int (nI (b))), (2, .int (nI (S.ac)))]) rfl rfl rfl ?_
          refine ev_b bX7_least_69_37 (lv' := [(4, .int (nI ((k + 1) + 1))), (3, .int (zI (-9))), (0, .ref 0), (1, .int (nI (b))), (2, .int (nI (S.ac)))]) (st' := []) (w2 := modW 0 ((S.bd, S.st, S.pr, S.ow, S.kd, S.fg, S.rs, S.ca, (S.ac ||| 1 <<< b)) : SaleN) ((X1.rf, wo, ta, ow, 1, X1.sh, X1.lt, X1.ty, X1.pl, X1.nu, X1.od, X1.tt, X1.oo, X1.on, X1.wn, X1.pd, X1.li, X1.rr, X1.rn, X1.dr) : ModN) K) rfl ?_
          exact ih37 (k + 1) (by omega) _ _ ⟨mok_stale hinv37.1.1 rfl, hinv37.2.1, hnext⟩
        · skip
          have hnext : (((k + 1 : Nat) : Int) = -9 ∧ leZ S b 99 0 = leZ S b (99 - (k + 1)) (k + 1)) ∨ (0 ≤ ((k + 1 : Nat) : Int) ∧ ((k + 1 : Nat) : Int) ≤ 99 ∧ leZ S b 99 0 = ((k + 1 : Nat) : Int)) := Or.inr ⟨by omega, by omega, by rw [hst, if_pos h55]⟩
          refine ev_b bX7_least_58_66 (lv' := [(3, .int (nI (k + 1))), (4, .int (nI (k + 1))), (0, .ref 0), (1, .int (nI (b))), (2, .int (nI (S.ac)))]) (st' := []) (w2 := modW 0 ((S.bd, S.st, S.pr, S.ow, S.kd, S.fg, S.rs, S.ca, (S.ac ||| 1 <<< b)) : SaleN) ((X1.rf, wo, ta, ow, 1, X1.sh, X1.lt, X1.ty, X1.pl, X1.nu, X1.od, X1.tt, X1.oo, X1.on, X1.wn, X1.pd, X1.li, X1.rr, X1.rn, X1.dr) : ModN) K) rfl ?_
          refine ev_eq (lv' := [(3, .int (zI (((k + 1 : Nat) : Int)))), (4, .int (nI (k + 1))), (0, .ref 0), (1, .int (nI (b))), (2, .int (nI (S.ac)))]) (by rw [zI_nat]) rfl rfl ?_
          refine ev_iinc_n (x := k + 1) (v := 1) dX7_least_66 rfl (by decide) ?_
          refine ev_eq (lv' := [(4, .int (nI ((k + 1) + 1))), (3, .int (zI (((k + 1 : Nat) : Int)))), (0, .ref 0), (1, .int (nI (b))), (2, .int (nI (S.ac)))]) rfl rfl rfl ?_
          refine ev_b bX7_least_69_37 (lv' := [(4, .int (nI ((k + 1) + 1))), (3, .int (zI (((k + 1 : Nat) : Int)))), (0, .ref 0), (1, .int (nI (b))), (2, .int (nI (S.ac)))]) (st' := []) (w2 := modW 0 ((S.bd, S.st, S.pr, S.ow, S.kd, S.fg, S.rs, S.ca, (S.ac ||| 1 <<< b)) : SaleN) ((X1.rf, wo, ta, ow, 1, X1.sh, X1.lt, X1.ty, X1.pl, X1.nu, X1.od, X1.tt, X1.oo, X1.on, X1.wn, X1.pd, X1.li, X1.rr, X1.rn, X1.dr) : ModN) K) rfl ?_
          exact ih37 (k + 1) (by omega) _ _ ⟨mok_stale hinv37.1.1 rfl, hinv37.2.1, hnext⟩
  refine ev_pick (lv' := [(4, .int (nI (1))), (3, .int (zI (-9))), (0, .ref 0), (1, .int (nI (b))), (2, .int (nI (S.ac)))]) rfl ?_
  rw [show nI (1) = nI (0 + 1) from congrArg nI (by omega)]
  exact L37 99 0 (by omega) (-9) X ⟨hM, xk_self X, Or.inl ⟨rfl, rfl⟩⟩
theorem bX7_tight_0_1 {l : Launch} {E : XE} : Snd l E mX7_tight 0 1 (xs [x_aload 0]) := Snd.cons (snd_aload_n (i := 0) dX7_tight_0 rfl) Snd.nil
theorem bX7_tight_4_9 {l : Launch} {E : XE} : Snd l E mX7_tight 4 9 (xs [x_istore 1, x_push (.int (nI 0)), x_istore 2, x_push (.int (nI 0)), x_istore 3]) := Snd.cons (snd_istore_n (i := 1) dX7_tight_4 rfl (by decide)) (Snd.cons (snd_iconst (v := nI 0) dX7_tight_5 (by decide)) (Snd.cons (snd_istore_n (i := 2) dX7_tight_6 rfl (by decide)) (Snd.cons (snd_iconst (v := nI 0) dX7_tight_7 (by decide)) (Snd.cons (snd_istore_n (i := 3) dX7_tight_8 rfl (by decide)) Snd.nil))))
theorem bX7_tight_9_14 {l : Launch} {E : XE} : Snd l E mX7_tight 9 14 (xs [x_iload 3, x_aload 0, x_get 8 6]) := Snd.cons (snd_iload_n (i := 3) dX7_tight_9 rfl) (Snd.cons (snd_aload_n (i := 0) dX7_tight_10 rfl) (Snd.cons (snd_get (ci := 8) (k := 6) dX7_tight_11 rfl inX7 (by decide) tw_920) Snd.nil))
theorem bX7_tight_57_58 {l : Launch} {E : XE} : Snd l E mX7_tight 57 58 (xs [x_iload 2]) := Snd.cons (snd_iload_n (i := 2) dX7_tight_57 rfl) Snd.nil
theorem bX7_tight_17_20 {l : Launch} {E : XE} : Snd l E mX7_tight 17 20 (xs [x_iload 2, x_iload 1, x_iload 3]) := Snd.cons (snd_iload_n (i := 2) dX7_tight_17 rfl) (Snd.cons (snd_iload_n (i := 1) dX7_tight_18 rfl) (Snd.cons (snd_iload_n (i := 3) dX7_tight_19 rfl) Snd.nil))
theorem bX7_tight_48_49 {l : Launch} {E : XE} : Snd l E mX7_tight 48 49 (xs [x_push (.int (nI 0))]) := Snd.cons (snd_iconst (v := nI 0) dX7_tight_48 (by decide)) Snd.nil
theorem bX7_tight_50_51 {l : Launch} {E : XE} : Snd l E mX7_tight 50 51 (xs [x_istore 2]) := Snd.cons (snd_istore_n (i := 2) dX7_tight_50 rfl (by decide)) Snd.nil
theorem bX7_tight_54_9 {l : Launch} {E : XE} : Snd l E mX7_tight 54 9 (xs [x_id]) := Snd.cons (snd_goto (tgt := 9) dX7_tight_54 (by decide)) Snd.nil
theorem bX7_tight_26_33 {l : Launch} {E : XE} : Snd l E mX7_tight 26 33 (xs [x_aload 0, x_iload 3, x_aload 0, x_get 8 5, x_iload 3]) := Snd.cons (snd_aload_n (i := 0) dX7_tight_26 rfl) (Snd.cons (snd_iload_n (i := 3) dX7_tight_27 rfl) (Snd.cons (snd_aload_n (i := 0) dX7_tight_28 rfl) (Snd.cons (snd_get (ci := 8) (k := 5) dX7_tight_29 rfl inX7 (by decide) tw_919) (Snd.cons (snd_iload_n (i := 3) dX7_tight_32 rfl) Snd.nil))))
theorem bX7_tight_34_35 {l : Launch} {E : XE} : Snd l E mX7_tight 34 35 (xs [x_push (.int (nI 1))]) := Snd.cons (snd_iconst (v := nI 1) dX7_tight_34 (by decide)) Snd.nil
theorem bX7_tight_42_44 {l : Launch} {E : XE} : Snd l E mX7_tight 42 44 (xs [x_push (.int (nI 1)), x_iload 3]) := Snd.cons (snd_iconst (v := nI 1) dX7_tight_42 (by decide)) (Snd.cons (snd_iload_n (i := 3) dX7_tight_43 rfl) Snd.nil)
theorem bX7_tight_45_49 {l : Launch} {E : XE} : Snd l E mX7_tight 45 49 (xs [x_id]) := Snd.cons (snd_goto (tgt := 49) dX7_tight_45 (by decide)) Snd.nil
set_option maxHeartbeats 4000000 in
set_option maxRecDepth 100000 in
theorem q_tight_ok {l : Launch} {E : XE} (S : SaleN) (X : ModN) (K : Option (Nat → Nat))  (hS : SaleOK S) (hM : MOK S X) (hp1 : ∀ k, k < S.ca → 1 ≤ S.pr k) : MetE l E mX7_tight (7) 0 0 [.ref 0] (modW 0 S X K) (MP S K (X.lt) (X.ty) (X.rr) (X.rn) (X.rf) (some (.int (nI (tiTo S S.ca))))) := by
  refine MetE.of (by decide +kernel) (Nat.le_of_ble_eq_true rfl) ?_
  have hca := hS.1
  have hpw := pow_ca hS
  have hac := ac_lt hS
  have hshl := shl_le hS
  
  refine ev_eq (lv' := [(0, .ref 0)]) (st' := []) (w' := modW 0 S X K) rfl rfl rfl ?_
  refine ev_b bX7_tight_0_1 (lv' := [(0, .ref 0)]) (st' := [.ref 0]) (w2 := modW 0 S X K) rfl ?_
  refine ev_callM (Yc := mX7_winnersNow) (st := []) dX7_tight_1 tw_1104 kX7_winnersNow (m_X7_winnersNow_g S S.kd S.fg X K hS (kf_self hM.1) hM.2) rfl rfl rfl rfl (by decide) (Nat.le_of_ble_eq_true rfl) (Nat.le_refl _) (Nat.le_refl _) (fun r w' h => by obtain ⟨-, wo, ta, ow, rfl, -⟩ := h; exact mod_eq) ?_
  rintro _ _ ⟨rfl, wo, ta, ow, rfl, hT⟩
  refine ev_eq (lv' := [(0, .ref 0)]) (st' := [.int (nI (winB S 1023))]) (w' := modW 0 S ((X.rf, wo, ta, ow, 0, X.sh, X.lt, X.ty, X.pl, X.nu, X.od, X.tt, X.oo, X.on, X.wn, X.pd, X.li, X.rr, X.rn, X.dr) : ModN) K) rfl rfl rfl ?_
  have hwb := winB_lt hS 1023
  refine ev_b bX7_tight_4_9 (lv' := [(3, .int (nI (0))), (2, .int (nI (0))), (1, .int (nI (winB S 1023))), (0, .ref 0)]) (st' := []) (w2 := modW 0 S ((X.rf, wo, ta, ow, 0, X.sh, X.lt, X.ty, X.pl, X.nu, X.od, X.tt, X.oo, X.on, X.wn, X.pd, X.li, X.rr, X.rn, X.dr) : ModN) K) rfl ?_
  have L9 : ∀ (j_ k : Nat), k + j_ = S.ca → ∀ (X1 : ModN), (MOK S X1 ∧ XK X1 X) → Ev l E mX7_tight (7) 0 0 (modW 0 S X K) (MP S K (X.lt) (X.ty) (X.rr) (X.rn) (X.rf) (some (.int (nI (tiTo S S.ca))))) 0 0 9 [(3, .int (nI (k))), (2, .int (nI (tiTo S k))), (0, .ref 0), (1, .int (nI (winB S 1023)))] [] (modW 0 S X1 K) := by
    intro j_
    induction j_ with
    | zero =>
      intro k hk9 X1 hinv9
      replace hk9 : k = S.ca := hk9
      subst hk9
      refine ev_b bX7_tight_9_14 (lv' := [(3, .int (nI (S.ca))), (2, .int (nI (tiTo S S.ca))), (0, .ref 0), (1, .int (nI (winB S 1023)))]) (st' := [.int (nI (S.ca)), .int (nI (S.ca))]) (w2 := modW 0 S X1 K) rfl ?_
      refine ev_icmp_ge_n (tgt := 57) (by omega) (by omega) dX7_tight_14 (by decide) (fun h14 => ?_) (fun h14 => (by exfalso; omega))
      refine ev_b bX7_tight_57_58 (lv' := [(3, .int (nI (S.ca))), (2, .int (nI (tiTo S S.ca))), (0, .ref 0), (1, .int (nI (winB S 1023)))]) (st' := [.int (nI (tiTo S S.ca))]) (w2 := modW 0 S X1 K) rfl ?_
      exact ev_iret dX7_tight_58 rfl mod_le (Nat.le_refl _) (Nat.le_refl _) ⟨rfl, X1, rfl, hinv9.1, hinv9.2⟩
    | succ j_ ih9 =>
      intro k hk9 X1 hinv9
      have hlt9 : k < S.ca := by omega
      have hpk := (hS.2.2.1 k hlt9).2.2.2
      have hp1k := hp1 k hlt9
      refine ev_b bX7_tight_9_14 (lv' := [(3, .int (nI (k))), (2, .int (nI (tiTo S k))), (0, .ref 0), (1, .int (nI (winB S 1023)))]) (st' := [.int (nI (S.ca)), .int (nI (k))]) (w2 := modW 0 S X1 K) rfl ?_
      refine ev_icmp_ge_n (tgt := 57) (by omega) (by omega) dX7_tight_14 (by decide) (fun h14 => (by exfalso; omega)) (fun h14 => ?_)
      refine ev_b bX7_tight_17_20 (lv' := [(3, .int (nI (k))), (2, .int (nI (tiTo S k))), (0, .ref 0), (1, .int (nI (winB S 1023)))]) (st' := [.int (nI (k)), .int (nI (winB S 1023)), .int (nI (tiTo S k))]) (w2 := modW 0 S X1 K) rfl ?_
      refine ev_callS (Yc := mX7_has) [] dX7_tight_20 tw_1057 kX7_has (m_X7_has (winB S 1023) k (by omega) (by omega)) rfl (st := [.int (nI (tiTo S k))]) rfl (by decide) rfl (by decide) (Nat.le_of_ble_eq_true rfl) (Nat.le_refl _) (Nat.le_refl _) (fun r w' h => by obtain ⟨-, rfl⟩ := h; exact Nat.le_of_ble_eq_true rfl) ?_
      rintro _ _ ⟨rfl, rfl⟩
      refine ev_eq (lv' := [(3, .int (nI (k))), (2, .int (nI (tiTo S k))), (0, .ref 0), (1, .int (nI (winB S 1023)))]) (st' := [.int (nI (b01 ((winB S 1023).testBit k = true))), .int (nI (tiTo S k))]) (w' := modW 0 S X1 K) rfl rfl rfl ?_
      refine ev_ifeq_b (tgt := 48) dX7_tight_23 (by decide) (fun h23 => ?_) (fun h23 => ?_)
      · skip
        have hrs : tiTo S (k + 1) = tiTo S k := by rw [tiTo_s, if_neg h23]
        refine ev_b bX7_tight_48_49 (lv' := [(3, .int (nI (k))), (2, .int (nI (tiTo S k))), (0, .ref 0), (1, .int (nI (winB S 1023)))]) (st' := [.int (nI (0)), .int (nI (tiTo S k))]) (w2 := modW 0 S X1 K) rfl ?_
        refine ev_ior_n dX7_tight_49 ?_
        refine ev_b bX7_tight_50_51 (lv' := [(2, .int (nI ((tiTo S k) ||| 0))), (3, .int (nI (k))), (0, .ref 0), (1, .int (nI (winB S 1023)))]) (st' := []) (w2 := modW 0 S X1 K) rfl ?_
        refine ev_iinc_n (x := k) (v := 1) dX7_tight_51 rfl (by decide) ?_
        refine ev_eq (lv' := [(3, .int (nI (k + 1))), (2, .int (nI ((tiTo S k) ||| 0))), (0, .ref 0), (1, .int (nI (winB S 1023)))]) rfl rfl rfl ?_
        refine ev_b bX7_tight_54_9 (lv' := [(3, .int (nI (k + 1))), (2, .int (nI ((tiTo S k) ||| 0))), (0, .ref 0), (1, .int (nI (winB S 1023)))]) (st' := []) (w2 := modW 0 S X1 K) rfl ?_
        rw [show nI (k + 1) = nI ((k + 1)) from congrArg nI (by omega)]
        rw [show nI ((tiTo S k) ||| 0) = nI (tiTo S (k + 1)) from congrArg nI (by first | rw [hrs, Nat.or_zero] | rw [hrs])]
        exact ih9 (k + 1) (by omega) _ ⟨by first | exact hinv9.1 | exact mok_stale hinv9.1.1 rfl, hinv9.2⟩
      · skip
        refine ev_b bX7_tight_26_33 (lv' := [(3, .int (nI (k))), (2, .int (nI (tiTo S k))), (0, .ref 0), (1, .int (nI (winB S 1023)))]) (st' := [.int (nI (k)), .ref 6, .int (nI (k)), .ref 0, .int (nI (tiTo S k))]) (w2 := modW 0 S X1 K) rfl ?_
        refine ev_iald_n (f := S.pr) dX7_tight_33 rfl (by omega) (by decide) ?_
        refine ev_b bX7_tight_34_35 (lv' := [(3, .int (nI (k))), (2, .int (nI (tiTo S k))), (0, .ref 0), (1, .int (nI (winB S 1023)))]) (st' := [.int (nI (1)), .int (nI (S.pr k)), .int (nI (k)), .ref 0, .int (nI (tiTo S k))]) (w2 := modW 0 S X1 K) rfl ?_
        refine ev_isub_n (by omega) dX7_tight_35 ?_
        refine ev_callM (Yc := mX7_winsBy) (st := [.int (nI (tiTo S k))]) dX7_tight_36 tw_1274 kX7_winsBy (m_X7_winsBy S X1 K k (S.pr k - 1) hS hinv9.1.1 hlt9 (by omega)) rfl rfl rfl rfl (by decide) (Nat.le_of_ble_eq_true rfl) (Nat.le_refl _) (Nat.le_refl _) (fun r w' h => by obtain ⟨-, wo, ta, ow, rfl⟩ := h; exact mod_eq) ?_
        rintro _ _ ⟨rfl, wo, ta, ow, rfl⟩
        refine ev_eq (lv' := [(3, .int (nI (k))), (2, .int (nI (tiTo S k))), (0, .ref 0), (1, .int (nI (winB S 1023)))]) (st' := [.int (nI (b01 ((winB (priceS S k (S.pr k - 1)) 1023).testBit k = true))), .int (nI (tiTo S k))]) (w' := modW 0 S ((X1.rf, wo, ta, ow, 1, X1.sh, X1.lt, X1.ty, X1.pl, X1.nu, X1.od, X1.tt, X1.oo, X1.on, X1.wn, X1.pd, X1.li, X1.rr, X1.rn, X1.dr) : ModN) K) rfl rfl rfl ?_
        refine ev_ifne_b (tgt := 48) dX7_tight_39 (by decide) (fun h39 => ?_) (fun h39 => ?_)
        · skip
          have hrs : tiTo S (k + 1) = tiTo S k := by rw [tiTo_s, if_pos h23, andn_one, if_pos h39, Nat.or_zero]
          refine ev_b bX7_tight_48_49 (lv' := [(3, .int (nI (k))), (2, .int (nI (tiTo S k))), (0, .ref 0), (1, .int (nI (winB S 1023)))]) (st' := [.int (nI (0)), .int (nI (tiTo S k))]) (w2 := modW 0 S ((X1.rf, wo, ta, ow, 1, X1.sh, X1.lt, X1.ty, X1.pl, X1.nu, X1.od, X1.tt, X1.oo, X1.on, X1.wn, X1.pd, X1.li, X1.rr, X1.rn, X1.dr) : ModN) K) rfl ?_
          refine ev_ior_n dX7_tight_49 ?_
          refine ev_b bX7_tight_50_51 (lv' := [(2, .int (nI ((tiTo S k) ||| 0))), (3, .int (nI (k))), (0, .ref 0), (1, .int (nI (winB S 1023)))]) (st' := []) (w2 := modW 0 S ((X1.rf, wo, ta, ow, 1, X1.sh, X1.lt, X1.ty, X1.pl, X1.nu, X1.od, X1.tt, X1.oo, X1.on, X1.wn, X1.pd, X1.li, X1.rr, X1.rn, X1.dr) : ModN) K) rfl ?_
          refine ev_iinc_n (x := k) (v := 1) dX7_tight_51 rfl (by decide) ?_
          refine ev_eq (lv' := [(3, .int (nI (k + 1))), (2, .int (nI ((tiTo S k) ||| 0))), (0, .ref 0), (1, .int (nI (winB S 1023)))]) rfl rfl rfl ?_
          refine ev_b bX7_tight_54_9 (lv' := [(3, .int (nI (k + 1))), (2, .int (nI ((tiTo S k) ||| 0))), (0, .ref 0), (1, .int (nI (winB S 1023)))]) (st' := []) (w2 := modW 0 S ((X1.rf, wo, ta, ow, 1, X1.sh, X1.lt, X1.ty, X1.pl, X1.nu, X1.od, X1.tt, X1.oo, X1.on, X1.wn, X1.pd, X1.li, X1.rr, X1.rn, X1.dr) : ModN) K) rfl ?_
          rw [show nI (k + 1) = nI ((k + 1)) from congrArg nI (by omega)]
          rw [show nI ((tiTo S k) ||| 0) = nI (tiTo S (k + 1)) from congrArg nI (by first | rw [hrs, Nat.or_zero] | rw [hrs])]
          exact ih9 (k + 1) (by omega) _ ⟨by first | exact hinv9.1 | exact mok_stale hinv9.1.1 rfl, hinv9.2⟩
        · skip
          have hrs : tiTo S (k + 1) = tiTo S k ||| 1 <<< k := by rw [tiTo_s, if_pos h23, andn_one, if_neg h39]
          refine ev_b bX7_tight_42_44 (lv' := [(3, .int (nI (k))), (2, .int (nI (tiTo S k))), (0, .ref 0), (1, .int (nI (winB S 1023)))]) (st' := [.int (nI (k)), .int (nI (1)), .int (nI (tiTo S k))]) (w2 := modW 0 S ((X1.rf, wo, ta, ow, 1, X1.sh, X1.lt, X1.ty, X1.pl, X1.nu, X1.od, X1.tt, X1.oo, X1.on, X1.wn, X1.pd, X1.li, X1.rr, X1.rn, X1.dr) : ModN) K) rfl ?_
          refine ev_ishl_n (by omega) dX7_tight_44 ?_
          refine ev_b bX7_tight_45_49 (lv' := [(3, .int (nI (k))), (2, .int (nI (tiTo S k))), (0, .ref 0), (1, .int (nI (winB S 1023)))]) (st' := [.int (nI (1 <<< k)), .int (nI (tiTo S k))]) (w2 := modW 0 S ((X1.rf, wo, ta, ow, 1, X1.sh, X1.lt, X1.ty, X1.pl, X1.nu, X1.od, X1.tt, X1.oo, X1.on, X1.wn, X1.pd, X1.li, X1.rr, X1.rn, X1.dr) : ModN) K) rfl ?_
          refine ev_ior_n dX7_tight_49 ?_
          refine ev_b bX7_tight_50_51 (lv' := [(2, .int (nI ((tiTo S k) ||| (1 <<< k)))), (3, .int (nI (k))), (0, .ref 0), (1, .int (nI (winB S 1023)))]) (st' := []) (w2 := modW 0 S ((X1.rf, wo, ta, ow, 1, X1.sh, X1.lt, X1.ty, X1.pl, X1.nu, X1.od, X1.tt, X1.oo, X1.on, X1.wn, X1.pd, X1.li, X1.rr, X1.rn, X1.dr) : ModN) K) rfl ?_
          refine ev_iinc_n (x := k) (v := 1) dX7_tight_51 rfl (by decide) ?_
          refine ev_eq (lv' := [(3, .int (nI (k + 1))), (2, .int (nI ((tiTo S k) ||| (1 <<< k)))), (0, .ref 0), (1, .int (nI (winB S 1023)))]) rfl rfl rfl ?_
          refine ev_b bX7_tight_54_9 (lv' := [(3, .int (nI (k + 1))), (2, .int (nI ((tiTo S k) ||| (1 <<< k)))), (0, .ref 0), (1, .int (nI (winB S 1023)))]) (st' := []) (w2 := modW 0 S ((X1.rf, wo, ta, ow, 1, X1.sh, X1.lt, X1.ty, X1.pl, X1.nu, X1.od, X1.tt, X1.oo, X1.on, X1.wn, X1.pd, X1.li, X1.rr, X1.rn, X1.dr) : ModN) K) rfl ?_
          rw [show nI (k + 1) = nI ((k + 1)) from congrArg nI (by omega)]
          rw [show nI ((tiTo S k) ||| (1 <<< k)) = nI (tiTo S (k + 1)) from congrArg nI (by first | rw [hrs, Nat.or_zero] | rw [hrs])]
          exact ih9 (k + 1) (by omega) _ ⟨by first | exact hinv9.1 | exact mok_stale hinv9.1.1 rfl, hinv9.2⟩
  refine ev_pick (lv' := [(3, .int (nI (0))), (2, .int (nI (0))), (0, .ref 0), (1, .int (nI (winB S 1023)))]) rfl ?_
  exact L9 S.ca 0 (by omega) _ ⟨mok_fresh hM.1 rfl hT, xk_self X⟩
theorem bX7_whatIs_0_3 {l : Launch} {E : XE} : Snd l E mX7_whatIs 0 3 (xs [x_iload 1, x_push (.int (nI 0)), x_push (.int (nI 4))]) := Snd.cons (snd_iload_n (i := 1) dX7_whatIs_0 rfl) (Snd.cons (snd_iconst (v := nI 0) dX7_whatIs_1 (by decide)) (Snd.cons (snd_iconst (v := nI 4) dX7_whatIs_2 (by decide)) Snd.nil))
theorem bX7_whatIs_9_11 {l : Launch} {E : XE} : Snd l E mX7_whatIs 9 11 (xs [x_aload 0, x_push (.int (-1))]) := Snd.cons (snd_aload_n (i := 0) dX7_whatIs_9 rfl) (Snd.cons (snd_iconst (v := -1) dX7_whatIs_10 (by decide)) Snd.nil)
set_option maxHeartbeats 4000000 in
set_option maxRecDepth 100000 in
theorem q_whatIs_1 {l : Launch} {E : XE} (S : SaleN) (X : ModN) (K : Option (Nat → Nat)) (z1 z2 : Int) (hS : SaleOK S) (hM : MOK S X) (rz1 : -2147483648 ≤ z1 ∧ z1 < 2147483648) (rz2 : -2147483648 ≤ z2 ∧ z2 < 2147483648) (h : ¬ (0 ≤ z1 ∧ z1 < 5)) : MetE l E mX7_whatIs (1) 0 0 [.ref 0, .int (zI (z1)), .int (zI (z2))] (modW 0 S X K) (MP S K (X.lt) (X.ty) (X.rr) (X.rn) ((up X.rf 1 (X.rf 1 + 1))) (some (.int (-1)))) := by
  refine MetE.of (by decide +kernel) (Nat.le_of_ble_eq_true rfl) ?_
  have hca := hS.1
  have hpw := pow_ca hS
  have hac := ac_lt hS
  have hshl := shl_le hS
  
  refine ev_eq (lv' := [(0, .ref 0), (1, .int (zI (z1))), (2, .int (zI (z2)))]) (st' := []) (w' := modW 0 S X K) rfl rfl rfl ?_
  refine ev_b bX7_whatIs_0_3 (lv' := [(0, .ref 0), (1, .int (zI (z1))), (2, .int (zI (z2)))]) (st' := [.int (nI (4)), .int (nI (0)), .int (zI (z1))]) (w2 := modW 0 S X K) rfl ?_
  refine ev_callS (Yc := mX7_isIn) [] dX7_whatIs_3 tw_1036 kX7_isIn (m_X7_isIn_z z1 0 4 rz1 (by decide) (by decide)) rfl (st := []) rfl (by decide) rfl (by decide) (Nat.le_of_ble_eq_true rfl) (Nat.le_refl _) (Nat.le_refl _) (fun r w' h => by obtain ⟨-, rfl⟩ := h; exact Nat.le_of_ble_eq_true rfl) ?_
  rintro _ _ ⟨rfl, rfl⟩
  refine ev_eq (lv' := [(0, .ref 0), (1, .int (zI (z1))), (2, .int (zI (z2)))]) (st' := [.int (nI (b01 (((0 : Nat) : Int) ≤ z1 ∧ z1 ≤ ((4 : Nat) : Int))))]) (w' := modW 0 S X K) rfl rfl rfl ?_
  refine ev_ifne_b (tgt := 15) dX7_whatIs_6 (by decide) (fun h6 => (by exfalso; omega)) (fun h6 => ?_)
  refine ev_b bX7_whatIs_9_11 (lv' := [(0, .ref 0), (1, .int (zI (z1))), (2, .int (zI (z2)))]) (st' := [.int (-1), .ref 0]) (w2 := modW 0 S X K) rfl ?_
  refine ev_callM (Yc := mX7_refuses) (st := []) dX7_whatIs_11 tw_1012 kX7_refuses (m_X7_refuses_1 S X K) rfl rfl rfl rfl (by decide) (Nat.le_of_ble_eq_true rfl) (Nat.le_refl _) (Nat.le_refl _) (fun r w' h => by obtain ⟨-, rfl⟩ := h; exact mod_eq) ?_
  rintro _ _ ⟨rfl, rfl⟩
  refine ev_eq (lv' := [(0, .ref 0), (1, .int (zI (z1))), (2, .int (zI (z2)))]) (st' := [.int (-1)]) (w' := modW 0 S (((up X.rf 1 (X.rf 1 + 1)), X.wo, X.ta, X.ow, X.sl, X.sh, X.lt, X.ty, X.pl, X.nu, X.od, X.tt, X.oo, X.on, X.wn, X.pd, X.li, X.rr, X.rn, X.dr) : ModN) K) rfl rfl rfl ?_
  exact ev_iret dX7_whatIs_14 rfl mod_le (Nat.le_refl _) (Nat.le_refl _) ⟨rfl, _, rfl, hM, rfl, rfl, rfl, rfl, rfl⟩
theorem bX7_whatIs_15_18 {l : Launch} {E : XE} : Snd l E mX7_whatIs 15 18 (xs [x_iload 2, x_push (.int (nI 0)), x_push (.int (nI 1))]) := Snd.cons (snd_iload_n (i := 2) dX7_whatIs_15 rfl) (Snd.cons (snd_iconst (v := nI 0) dX7_whatIs_16 (by decide)) (Snd.cons (snd_iconst (v := nI 1) dX7_whatIs_17 (by decide)) Snd.nil))
theorem bX7_whatIs_24_27 {l : Launch} {E : XE} : Snd l E mX7_whatIs 24 27 (xs [x_aload 0, x_push (.int (-2))]) := Snd.cons (snd_aload_n (i := 0) dX7_whatIs_24 rfl) (Snd.cons (snd_bipush (v := -2) dX7_whatIs_25 (by decide)) Snd.nil)
set_option maxHeartbeats 4000000 in
set_option maxRecDepth 100000 in
theorem q_whatIs_2 {l : Launch} {E : XE} (S : SaleN) (X : ModN) (K : Option (Nat → Nat)) (b : Nat) (z2 : Int) (hS : SaleOK S) (hM : MOK S X) (rz2 : -2147483648 ≤ z2 ∧ z2 < 2147483648) (hb : b < 5) (h : ¬ (z2 = 0 ∨ z2 = 1)) : MetE l E mX7_whatIs (1) 0 0 [.ref 0, .int (nI (b)), .int (zI (z2))] (modW 0 S X K) (MP S K (X.lt) (X.ty) (X.rr) (X.rn) ((up X.rf 2 (X.rf 2 + 1))) (some (.int (-2)))) := by
  refine MetE.of (by decide +kernel) (Nat.le_of_ble_eq_true rfl) ?_
  have hca := hS.1
  have hpw := pow_ca hS
  have hac := ac_lt hS
  have hshl := shl_le hS
  
  refine ev_eq (lv' := [(0, .ref 0), (1, .int (nI (b))), (2, .int (zI (z2)))]) (st' := []) (w' := modW 0 S X K) rfl rfl rfl ?_
  refine ev_b bX7_whatIs_0_3 (lv' := [(0, .ref 0), (1, .int (nI (b))), (2, .int (zI (z2)))]) (st' := [.int (nI (4)), .int (nI (0)), .int (nI (b))]) (w2 := modW 0 S X K) rfl ?_
  refine ev_callS (Yc := mX7_isIn) [] dX7_whatIs_3 tw_1036 kX7_isIn (m_X7_isIn_n b 0 4 (by omega) (by decide) (by decide)) rfl (st := []) rfl (by decide) rfl (by decide) (Nat.le_of_ble_eq_true rfl) (Nat.le_refl _) (Nat.le_refl _) (fun r w' h => by obtain ⟨-, rfl⟩ := h; exact Nat.le_of_ble_eq_true rfl) ?_
  rintro _ _ ⟨rfl, rfl⟩
  refine ev_eq (lv' := [(0, .ref 0), (1, .int (nI (b))), (2, .int (zI (z2)))]) (st' := [.int (nI (b01 (0 ≤ b ∧ b ≤ 4)))]) (w' := modW 0 S X K) rfl rfl rfl ?_
  refine ev_ifne_b (tgt := 15) dX7_whatIs_6 (by decide) (fun h6 => ?_) (fun h6 => (by exfalso; omega))
  refine ev_b bX7_whatIs_15_18 (lv' := [(0, .ref 0), (1, .int (nI (b))), (2, .int (zI (z2)))]) (st' := [.int (nI (1)), .int (nI (0)), .int (zI (z2))]) (w2 := modW 0 S X K) rfl ?_
  refine ev_callS (Yc := mX7_isIn) [] dX7_whatIs_18 tw_1036 kX7_isIn (m_X7_isIn_z z2 0 1 rz2 (by decide) (by decide)) rfl (st := []) rfl (by decide) rfl (by decide) (Nat.le_of_ble_eq_true rfl) (Nat.le_refl _) (Nat.le_refl _) (fun r w' h => by obtain ⟨-, rfl⟩ := h; exact Nat.le_of_ble_eq_true rfl) ?_
  rintro _ _ ⟨rfl, rfl⟩
  refine ev_eq (lv' := [(0, .ref 0), (1, .int (nI (b))), (2, .int (zI (z2)))]) (st' := [.int (nI (b01 (((0 : Nat) : Int) ≤ z2 ∧ z2 ≤ ((1 : Nat) : Int))))]) (w' := modW 0 S X K) rfl rfl rfl ?_
  refine ev_ifne_b (tgt := 31) dX7_whatIs_21 (by decide) (fun h21 => (by exfalso; omega)) (fun h21 => ?_)
  refine ev_b bX7_whatIs_24_27 (lv' := [(0, .ref 0), (1, .int (nI (b))), (2, .int (zI (z2)))]) (st' := [.int (-2), .ref 0]) (w2 := modW 0 S X K) rfl ?_
  refine ev_callM (Yc := mX7_refuses) (st := []) dX7_whatIs_27 tw_1012 kX7_refuses (m_X7_refuses_2 S X K) rfl rfl rfl rfl (by decide) (Nat.le_of_ble_eq_true rfl) (Nat.le_refl _) (Nat.le_refl _) (fun r w' h => by obtain ⟨-, rfl⟩ := h; exact mod_eq) ?_
  rintro _ _ ⟨rfl, rfl⟩
  refine ev_eq (lv' := [(0, .ref 0), (1, .int (nI (b))), (2, .int (zI (z2)))]) (st' := [.int (-2)]) (w' := modW 0 S (((up X.rf 2 (X.rf 2 + 1)), X.wo, X.ta, X.ow, X.sl, X.sh, X.lt, X.ty, X.pl, X.nu, X.od, X.tt, X.oo, X.on, X.wn, X.pd, X.li, X.rr, X.rn, X.dr) : ModN) K) rfl rfl rfl ?_
  exact ev_iret dX7_whatIs_30 rfl mod_le (Nat.le_refl _) (Nat.le_refl _) ⟨rfl, _, rfl, hM, rfl, rfl, rfl, rfl, rfl⟩
theorem bX7_whatIs_31_36 {l : Launch} {E : XE} : Snd l E mX7_whatIs 31 36 (xs [x_aload 0, x_get 8 1, x_iload 1]) := Snd.cons (snd_aload_n (i := 0) dX7_whatIs_31 rfl) (Snd.cons (snd_get (ci := 8) (k := 1) dX7_whatIs_32 rfl inX7 (by decide) tw_915) (Snd.cons (snd_iload_n (i := 1) dX7_whatIs_35 rfl) Snd.nil))
theorem bX7_whatIs_37_43 {l : Launch} {E : XE} : Snd l E mX7_whatIs 37 43 (xs [x_istore 3, x_aload 0, x_get 8 2, x_iload 1]) := Snd.cons (snd_istore_n (i := 3) dX7_whatIs_37 rfl (by decide)) (Snd.cons (snd_aload_n (i := 0) dX7_whatIs_38 rfl) (Snd.cons (snd_get (ci := 8) (k := 2) dX7_whatIs_39 rfl inX7 (by decide) tw_916) (Snd.cons (snd_iload_n (i := 1) dX7_whatIs_42 rfl) Snd.nil)))
theorem bX7_whatIs_44_52 {l : Launch} {E : XE} : Snd l E mX7_whatIs 44 52 (xs [x_istore 4, x_push (.int (nI 0)), x_istore 5, x_push (.int (nI 0)), x_istore 6]) := Snd.cons (snd_istore dX7_whatIs_44 (by decide)) (Snd.cons (snd_iconst (v := nI 0) dX7_whatIs_46 (by decide)) (Snd.cons (snd_istore dX7_whatIs_47 (by decide)) (Snd.cons (snd_iconst (v := nI 0) dX7_whatIs_49 (by decide)) (Snd.cons (snd_istore dX7_whatIs_50 (by decide)) Snd.nil))))
theorem bX7_whatIs_52_55 {l : Launch} {E : XE} : Snd l E mX7_whatIs 52 55 (xs [x_iload 6, x_iload 2]) := Snd.cons (snd_iload dX7_whatIs_52) (Snd.cons (snd_iload_n (i := 2) dX7_whatIs_54 rfl) Snd.nil)
theorem bX7_whatIs_58_65 {l : Launch} {E : XE} : Snd l E mX7_whatIs 58 65 (xs [x_push (.int (nI 6)), x_id]) := Snd.cons (snd_bipush (v := nI 6) dX7_whatIs_58 (by decide)) (Snd.cons (snd_goto (tgt := 65) dX7_whatIs_60 (by decide)) Snd.nil)
theorem bX7_whatIs_126_132 {l : Launch} {E : XE} : Snd l E mX7_whatIs 126 132 (xs [x_aload 0, x_get 8 1, x_iload 1, x_iload 3]) := Snd.cons (snd_aload_n (i := 0) dX7_whatIs_126 rfl) (Snd.cons (snd_get (ci := 8) (k := 1) dX7_whatIs_127 rfl inX7 (by decide) tw_915) (Snd.cons (snd_iload_n (i := 1) dX7_whatIs_130 rfl) (Snd.cons (snd_iload_n (i := 3) dX7_whatIs_131 rfl) Snd.nil)))
theorem bX7_whatIs_133_140 {l : Launch} {E : XE} : Snd l E mX7_whatIs 133 140 (xs [x_aload 0, x_get 8 2, x_iload 1, x_iload 4]) := Snd.cons (snd_aload_n (i := 0) dX7_whatIs_133 rfl) (Snd.cons (snd_get (ci := 8) (k := 2) dX7_whatIs_134 rfl inX7 (by decide) tw_916) (Snd.cons (snd_iload_n (i := 1) dX7_whatIs_137 rfl) (Snd.cons (snd_iload dX7_whatIs_138) Snd.nil)))
theorem bX7_whatIs_141_143 {l : Launch} {E : XE} : Snd l E mX7_whatIs 141 143 (xs [x_aload 0, x_push (.int (nI 1))]) := Snd.cons (snd_aload_n (i := 0) dX7_whatIs_141 rfl) (Snd.cons (snd_iconst (v := nI 1) dX7_whatIs_142 (by decide)) Snd.nil)
theorem bX7_whatIs_146_148 {l : Launch} {E : XE} : Snd l E mX7_whatIs 146 148 (xs [x_iload 5]) := Snd.cons (snd_iload dX7_whatIs_146) Snd.nil
theorem bX7_whatIs_68_69 {l : Launch} {E : XE} : Snd l E mX7_whatIs 68 69 (xs [x_iload 2]) := Snd.cons (snd_iload_n (i := 2) dX7_whatIs_68 rfl) Snd.nil
theorem bX7_whatIs_72_79 {l : Launch} {E : XE} : Snd l E mX7_whatIs 72 79 (xs [x_aload 0, x_get 8 1, x_iload 1, x_iload 6]) := Snd.cons (snd_aload_n (i := 0) dX7_whatIs_72 rfl) (Snd.cons (snd_get (ci := 8) (k := 1) dX7_whatIs_73 rfl inX7 (by decide) tw_915) (Snd.cons (snd_iload_n (i := 1) dX7_whatIs_76 rfl) (Snd.cons (snd_iload dX7_whatIs_77) Snd.nil)))
theorem bX7_whatIs_80_93 {l : Launch} {E : XE} : Snd l E mX7_whatIs 80 93 (xs [x_id, x_aload 0, x_push (.int (nI 1))]) := Snd.cons (snd_goto (tgt := 91) dX7_whatIs_80 (by decide)) (Snd.cons (snd_aload_n (i := 0) dX7_whatIs_91 rfl) (Snd.cons (snd_iconst (v := nI 1) dX7_whatIs_92 (by decide)) Snd.nil))
theorem bX7_whatIs_96_97 {l : Launch} {E : XE} : Snd l E mX7_whatIs 96 97 (xs [x_aload 0]) := Snd.cons (snd_aload_n (i := 0) dX7_whatIs_96 rfl) Snd.nil
theorem bX7_whatIs_100_103 {l : Launch} {E : XE} : Snd l E mX7_whatIs 100 103 (xs [x_iload 5, x_aload 0]) := Snd.cons (snd_iload dX7_whatIs_100) (Snd.cons (snd_aload_n (i := 0) dX7_whatIs_102 rfl) Snd.nil)
theorem bX7_whatIs_116_117 {l : Launch} {E : XE} : Snd l E mX7_whatIs 116 117 (xs [x_push (.int (nI 0))]) := Snd.cons (snd_iconst (v := nI 0) dX7_whatIs_116 (by decide)) Snd.nil
theorem bX7_whatIs_118_120 {l : Launch} {E : XE} : Snd l E mX7_whatIs 118 120 (xs [x_istore 5]) := Snd.cons (snd_istore dX7_whatIs_118 (by decide)) Snd.nil
theorem bX7_whatIs_123_52 {l : Launch} {E : XE} : Snd l E mX7_whatIs 123 52 (xs [x_id]) := Snd.cons (snd_goto (tgt := 52) dX7_whatIs_123 (by decide)) Snd.nil
theorem bX7_whatIs_109_112 {l : Launch} {E : XE} : Snd l E mX7_whatIs 109 112 (xs [x_push (.int (nI 1)), x_iload 6]) := Snd.cons (snd_iconst (v := nI 1) dX7_whatIs_109 (by decide)) (Snd.cons (snd_iload dX7_whatIs_110) Snd.nil)
theorem bX7_whatIs_113_117 {l : Launch} {E : XE} : Snd l E mX7_whatIs 113 117 (xs [x_id]) := Snd.cons (snd_goto (tgt := 117) dX7_whatIs_113 (by decide)) Snd.nil
set_option maxHeartbeats 4000000 in
set_option maxRecDepth 100000 in
theorem q_whatIs_w0 {l : Launch} {E : XE} (S : SaleN) (X : ModN) (K : Option (Nat → Nat)) (b : Nat) (hS : SaleOK S) (hM : MOK S X) (hb : b < 5) (hrn : X.rn ≤ 5) (hrr : ∀ k, k < X.rn → X.rr k ≤ 99) : MetE l E mX7_whatIs (7) 0 0 [.ref 0, .int (nI (b)), .int (nI (0))] (modW 0 S X K) (MP S K (X.lt) (X.ty) (X.rr) (X.rn) (X.rf) (some (.int (nI (kiTo S b X.rr X.rn 6))))) := by
  refine MetE.of (by decide +kernel) (Nat.le_of_ble_eq_true rfl) ?_
  have hca := hS.1
  have hpw := pow_ca hS
  have hac := ac_lt hS
  have hshl := shl_le hS
  
  refine ev_eq (lv' := [(0, .ref 0), (1, .int (nI (b))), (2, .int (nI (0)))]) (st' := []) (w' := modW 0 S X K) rfl rfl rfl ?_
  refine ev_b bX7_whatIs_0_3 (lv' := [(0, .ref 0), (1, .int (nI (b))), (2, .int (nI (0)))]) (st' := [.int (nI (4)), .int (nI (0)), .int (nI (b))]) (w2 := modW 0 S X K) rfl ?_
  refine ev_callS (Yc := mX7_isIn) [] dX7_whatIs_3 tw_1036 kX7_isIn (m_X7_isIn_n b 0 4 (by omega) (by decide) (by decide)) rfl (st := []) rfl (by decide) rfl (by decide) (Nat.le_of_ble_eq_true rfl) (Nat.le_refl _) (Nat.le_refl _) (fun r w' h => by obtain ⟨-, rfl⟩ := h; exact Nat.le_of_ble_eq_true rfl) ?_
  rintro _ _ ⟨rfl, rfl⟩
  refine ev_eq (lv' := [(0, .ref 0), (1, .int (nI (b))), (2, .int (nI (0)))]) (st' := [.int (nI (b01 (0 ≤ b ∧ b ≤ 4)))]) (w' := modW 0 S X K) rfl rfl rfl ?_
  refine ev_ifne_b (tgt := 15) dX7_whatIs_6 (by decide) (fun h6 => ?_) (fun h6 => (by exfalso; omega))
  refine ev_b bX7_whatIs_15_18 (lv' := [(0, .ref 0), (1, .int (nI (b))), (2, .int (nI (0)))]) (st' := [.int (nI (1)), .int (nI (0)), .int (nI (0))]) (w2 := modW 0 S X K) rfl ?_
  refine ev_callS (Yc := mX7_isIn) [] dX7_whatIs_18 tw_1036 kX7_isIn (m_X7_isIn_n 0 0 1 (by decide) (by decide) (by decide)) rfl (st := []) rfl (by decide) rfl (by decide) (Nat.le_of_ble_eq_true rfl) (Nat.le_refl _) (Nat.le_refl _) (fun r w' h => by obtain ⟨-, rfl⟩ := h; exact Nat.le_of_ble_eq_true rfl) ?_
  rintro _ _ ⟨rfl, rfl⟩
  refine ev_eq (lv' := [(0, .ref 0), (1, .int (nI (b))), (2, .int (nI (0)))]) (st' := [.int (nI (b01 (0 ≤ 0 ∧ 0 ≤ 1)))]) (w' := modW 0 S X K) rfl rfl rfl ?_
  refine ev_ifne_b (tgt := 31) dX7_whatIs_21 (by decide) (fun h21 => ?_) (fun h21 => (by exfalso; omega))
  refine ev_b bX7_whatIs_31_36 (lv' := [(0, .ref 0), (1, .int (nI (b))), (2, .int (nI (0)))]) (st' := [.int (nI (b)), .ref 2]) (w2 := modW 0 S X K) rfl ?_
  refine ev_iald_n (f := S.kd) dX7_whatIs_36 rfl (by omega) (by decide) ?_
  refine ev_b bX7_whatIs_37_43 (lv' := [(3, .int (nI (S.kd b))), (0, .ref 0), (1, .int (nI (b))), (2, .int (nI (0)))]) (st' := [.int (nI (b)), .ref 3]) (w2 := modW 0 S X K) rfl ?_
  refine ev_iald_n (f := S.fg) dX7_whatIs_43 rfl (by omega) (by decide) ?_
  refine ev_b bX7_whatIs_44_52 (lv' := [(6, .int (nI (0))), (5, .int (nI (0))), (4, .int (nI (S.fg b))), (3, .int (nI (S.kd b))), (0, .ref 0), (1, .int (nI (b))), (2, .int (nI (0)))]) (st' := []) (w2 := modW 0 S X K) rfl ?_
  have L52 : ∀ (j_ k : Nat), k + j_ = 6 → ∀ (g : Nat → Nat) (X1 : ModN), ((∀ q, up g b q = up S.kd b q) ∧ MOK0 X1 ∧ XK X1 X) → Ev l E mX7_whatIs (7) 0 0 (modW 0 S X K) (MP S K (X.lt) (X.ty) (X.rr) (X.rn) (X.rf) (some (.int (nI (kiTo S b X.rr X.rn 6))))) 0 0 52 [(6, .int (nI (k))), (5, .int (nI (kiTo S b X.rr X.rn k))), (0, .ref 0), (1, .int (nI (b))), (2, .int (nI (0))), (3, .int (nI (S.kd b))), (4, .int (nI (S.fg b)))] [] (modW 0 ((S.bd, S.st, S.pr, S.ow, g, S.fg, S.rs, S.ca, S.ac) : SaleN) X1 K) := by
    intro j_
    induction j_ with
    | zero =>
      intro k hk52 g X1 hinv52
      replace hk52 : k = 6 := hk52
      subst hk52
      refine ev_b bX7_whatIs_52_55 (lv' := [(6, .int (nI (6))), (5, .int (nI (kiTo S b X.rr X.rn 6))), (0, .ref 0), (1, .int (nI (b))), (2, .int (nI (0))), (3, .int (nI (S.kd b))), (4, .int (nI (S.fg b)))]) (st' := [.int (nI (0)), .int (nI (6))]) (w2 := modW 0 ((S.bd, S.st, S.pr, S.ow, g, S.fg, S.rs, S.ca, S.ac) : SaleN) X1 K) rfl ?_
      refine ev_if_ne_n (tgt := 63) (by decide) dX7_whatIs_55 (by decide) (fun h55 => (by exfalso; omega)) (fun h55 => ?_)
      refine ev_b bX7_whatIs_58_65 (lv' := [(6, .int (nI (6))), (5, .int (nI (kiTo S b X.rr X.rn 6))), (0, .ref 0), (1, .int (nI (b))), (2, .int (nI (0))), (3, .int (nI (S.kd b))), (4, .int (nI (S.fg b)))]) (st' := [.int (nI (6)), .int (nI (6))]) (w2 := modW 0 ((S.bd, S.st, S.pr, S.ow, g, S.fg, S.rs, S.ca, S.ac) : SaleN) X1 K) rfl ?_
      refine ev_icmp_ge_n (tgt := 126) (by decide) (by decide) dX7_whatIs_65 (by decide) (fun h65 => ?_) (fun h65 => (by exfalso; omega))
      refine ev_b bX7_whatIs_126_132 (lv' := [(6, .int (nI (6))), (5, .int (nI (kiTo S b X.rr X.rn 6))), (0, .ref 0), (1, .int (nI (b))), (2, .int (nI (0))), (3, .int (nI (S.kd b))), (4, .int (nI (S.fg b)))]) (st' := [.int (nI (S.kd b)), .int (nI (b)), .ref 2]) (w2 := modW 0 ((S.bd, S.st, S.pr, S.ow, g, S.fg, S.rs, S.ca, S.ac) : SaleN) X1 K) rfl ?_
      refine ev_iast_n (f := g) dX7_whatIs_132 rfl (by omega) (by decide) ?_
      refine ev_eq (w' := modW 0 ((S.bd, S.st, S.pr, S.ow, up g b (S.kd b), S.fg, S.rs, S.ca, S.ac) : SaleN) X1 K) rfl rfl rfl ?_
      refine ev_b bX7_whatIs_133_140 (lv' := [(6, .int (nI (6))), (5, .int (nI (kiTo S b X.rr X.rn 6))), (0, .ref 0), (1, .int (nI (b))), (2, .int (nI (0))), (3, .int (nI (S.kd b))), (4, .int (nI (S.fg b)))]) (st' := [.int (nI (S.fg b)), .int (nI (b)), .ref 3]) (w2 := modW 0 ((S.bd, S.st, S.pr, S.ow, up g b (S.kd b), S.fg, S.rs, S.ca, S.ac) : SaleN) X1 K) rfl ?_
      refine ev_iast_n (f := S.fg) dX7_whatIs_140 rfl (by omega) (by decide) ?_
      refine ev_eq (w' := modW 0 ((S.bd, S.st, S.pr, S.ow, up g b (S.kd b), up S.fg b (S.fg b), S.rs, S.ca, S.ac) : SaleN) X1 K) rfl rfl rfl ?_
      refine ev_b bX7_whatIs_141_143 (lv' := [(6, .int (nI (6))), (5, .int (nI (kiTo S b X.rr X.rn 6))), (0, .ref 0), (1, .int (nI (b))), (2, .int (nI (0))), (3, .int (nI (S.kd b))), (4, .int (nI (S.fg b)))]) (st' := [.int (nI (1)), .ref 0]) (w2 := modW 0 ((S.bd, S.st, S.pr, S.ow, up g b (S.kd b), up S.fg b (S.fg b), S.rs, S.ca, S.ac) : SaleN) X1 K) rfl ?_
      refine snd_put (ci := 8) (k := 12) (a := 0) dX7_whatIs_143 rfl inX7 tyX7_ok nmX7 (by decide) tw_926 rfl rfl (Nat.le_of_ble_eq_true rfl) (fun _ => rfl) (fun _ => rfl) ?_
      refine ev_eq (w' := modW 0 ((S.bd, S.st, S.pr, S.ow, up g b (S.kd b), up S.fg b (S.fg b), S.rs, S.ca, S.ac) : SaleN) ((X1.rf, X1.wo, X1.ta, X1.ow, 1, X1.sh, X1.lt, X1.ty, X1.pl, X1.nu, X1.od, X1.tt, X1.oo, X1.on, X1.wn, X1.pd, X1.li, X1.rr, X1.rn, X1.dr) : ModN) K) rfl rfl rfl ?_
      refine ev_eq (w' := modW 0 S ((X1.rf, X1.wo, X1.ta, X1.ow, 1, X1.sh, X1.lt, X1.ty, X1.pl, X1.nu, X1.od, X1.tt, X1.oo, X1.on, X1.wn, X1.pd, X1.li, X1.rr, X1.rn, X1.dr) : ModN) K) rfl rfl (by rw [hinv52.1, up_same, up_same] <;> rfl) ?_
      refine ev_b bX7_whatIs_146_148 (lv' := [(6, .int (nI (6))), (5, .int (nI (kiTo S b X.rr X.rn 6))), (0, .ref 0), (1, .int (nI (b))), (2, .int (nI (0))), (3, .int (nI (S.kd b))), (4, .int (nI (S.fg b)))]) (st' := [.int (nI (kiTo S b X.rr X.rn 6))]) (w2 := modW 0 S ((X1.rf, X1.wo, X1.ta, X1.ow, 1, X1.sh, X1.lt, X1.ty, X1.pl, X1.nu, X1.od, X1.tt, X1.oo, X1.on, X1.wn, X1.pd, X1.li, X1.rr, X1.rn, X1.dr) : ModN) K) rfl ?_
      exact ev_iret dX7_whatIs_148 rfl mod_le (Nat.le_refl _) (Nat.le_refl _) ⟨rfl, _, rfl, mok_stale hinv52.2.1.1 rfl, hinv52.2.2⟩
    | succ j_ ih52 =>
      intro k hk52 g X1 hinv52
      have hlt52 : k < 6 := by omega
      have hxq := hinv52.2.2.2.2.1
      have hxr := hinv52.2.2.2.2.2.1
      have hkb := hS.2.2.2.1 b hb
      have hU : SaleOK (kindS S b k (S.fg b)) := kind_ok hS (by omega) (by omega)
      refine ev_b bX7_whatIs_52_55 (lv' := [(6, .int (nI (k))), (5, .int (nI (kiTo S b X.rr X.rn k))), (0, .ref 0), (1, .int (nI (b))), (2, .int (nI (0))), (3, .int (nI (S.kd b))), (4, .int (nI (S.fg b)))]) (st' := [.int (nI (0)), .int (nI (k))]) (w2 := modW 0 ((S.bd, S.st, S.pr, S.ow, g, S.fg, S.rs, S.ca, S.ac) : SaleN) X1 K) rfl ?_
      refine ev_if_ne_n (tgt := 63) (by decide) dX7_whatIs_55 (by decide) (fun h55 => (by exfalso; omega)) (fun h55 => ?_)
      refine ev_b bX7_whatIs_58_65 (lv' := [(6, .int (nI (k))), (5, .int (nI (kiTo S b X.rr X.rn k))), (0, .ref 0), (1, .int (nI (b))), (2, .int (nI (0))), (3, .int (nI (S.kd b))), (4, .int (nI (S.fg b)))]) (st' := [.int (nI (6)), .int (nI (k))]) (w2 := modW 0 ((S.bd, S.st, S.pr, S.ow, g, S.fg, S.rs, S.ca, S.ac) : SaleN) X1 K) rfl ?_
      refine ev_icmp_ge_n (tgt := 126) (by omega) (by decide) dX7_whatIs_65 (by decide) (fun h65 => (by exfalso; omega)) (fun h65 => ?_)
      refine ev_b bX7_whatIs_68_69 (lv' := [(6, .int (nI (k))), (5, .int (nI (kiTo S b X.rr X.rn k))), (0, .ref 0), (1, .int (nI (b))), (2, .int (nI (0))), (3, .int (nI (S.kd b))), (4, .int (nI (S.fg b)))]) (st' := [.int (nI (0))]) (w2 := modW 0 ((S.bd, S.st, S.pr, S.ow, g, S.fg, S.rs, S.ca, S.ac) : SaleN) X1 K) rfl ?_
      refine ev_if_ne_n (tgt := 83) (by decide) dX7_whatIs_69 (by decide) (fun h69 => (by exfalso; omega)) (fun h69 => ?_)
      refine ev_b bX7_whatIs_72_79 (lv' := [(6, .int (nI (k))), (5, .int (nI (kiTo S b X.rr X.rn k))), (0, .ref 0), (1, .int (nI (b))), (2, .int (nI (0))), (3, .int (nI (S.kd b))), (4, .int (nI (S.fg b)))]) (st' := [.int (nI (k)), .int (nI (b)), .ref 2]) (w2 := modW 0 ((S.bd, S.st, S.pr, S.ow, g, S.fg, S.rs, S.ca, S.ac) : SaleN) X1 K) rfl ?_
      refine ev_iast_n (f := g) dX7_whatIs_79 rfl (by omega) (by decide) ?_
      refine ev_eq (w' := modW 0 ((S.bd, S.st, S.pr, S.ow, up g b k, S.fg, S.rs, S.ca, S.ac) : SaleN) X1 K) rfl rfl rfl ?_
      refine ev_b bX7_whatIs_80_93 (lv' := [(6, .int (nI (k))), (5, .int (nI (kiTo S b X.rr X.rn k))), (0, .ref 0), (1, .int (nI (b))), (2, .int (nI (0))), (3, .int (nI (S.kd b))), (4, .int (nI (S.fg b)))]) (st' := [.int (nI (1)), .ref 0]) (w2 := modW 0 ((S.bd, S.st, S.pr, S.ow, up g b k, S.fg, S.rs, S.ca, S.ac) : SaleN) X1 K) rfl ?_
      refine snd_put (ci := 8) (k := 12) (a := 0) dX7_whatIs_93 rfl inX7 tyX7_ok nmX7 (by decide) tw_926 rfl rfl (Nat.le_of_ble_eq_true rfl) (fun _ => rfl) (fun _ => rfl) ?_
      refine ev_eq (w' := modW 0 ((S.bd, S.st, S.pr, S.ow, up g b k, S.fg, S.rs, S.ca, S.ac) : SaleN) ((X1.rf, X1.wo, X1.ta, X1.ow, 1, X1.sh, X1.lt, X1.ty, X1.pl, X1.nu, X1.od, X1.tt, X1.oo, X1.on, X1.wn, X1.pd, X1.li, X1.rr, X1.rn, X1.dr) : ModN) K) rfl rfl rfl ?_
      refine ev_b bX7_whatIs_96_97 (lv' := [(6, .int (nI (k))), (5, .int (nI (kiTo S b X.rr X.rn k))), (0, .ref 0), (1, .int (nI (b))), (2, .int (nI (0))), (3, .int (nI (S.kd b))), (4, .int (nI (S.fg b)))]) (st' := [.ref 0]) (w2 := modW 0 ((S.bd, S.st, S.pr, S.ow, up g b k, S.fg, S.rs, S.ca, S.ac) : SaleN) ((X1.rf, X1.wo, X1.ta, X1.ow, 1, X1.sh, X1.lt, X1.ty, X1.pl, X1.nu, X1.od, X1.tt, X1.oo, X1.on, X1.wn, X1.pd, X1.li, X1.rr, X1.rn, X1.dr) : ModN) K) rfl ?_
      refine ev_eq (w' := modW 0 ((kindS S b k (S.fg b))) ((X1.rf, X1.wo, X1.ta, X1.ow, 1, X1.sh, X1.lt, X1.ty, X1.pl, X1.nu, X1.od, X1.tt, X1.oo, X1.on, X1.wn, X1.pd, X1.li, X1.rr, X1.rn, X1.dr) : ModN) K) rfl rfl (by rw [hinv52.1, kind_k]) ?_
      refine ev_callM (Yc := mX7_findHarm) (st := []) dX7_whatIs_97 tw_1224 kX7_findHarm (m_X7_findHarm ((kindS S b k (S.fg b))) ((X1.rf, X1.wo, X1.ta, X1.ow, 1, X1.sh, X1.lt, X1.ty, X1.pl, X1.nu, X1.od, X1.tt, X1.oo, X1.on, X1.wn, X1.pd, X1.li, X1.rr, X1.rn, X1.dr) : ModN) K hU (mok_stale hinv52.2.1.1 rfl)) rfl rfl rfl rfl (by decide) (Nat.le_of_ble_eq_true rfl) (Nat.le_refl _) (Nat.le_refl _) (fun r w' h => by obtain ⟨-, wo, ta, rfl, -⟩ := h; exact mod_eq) ?_
      rintro _ _ ⟨rfl, wo, ta, rfl, hT⟩
      refine ev_eq (lv' := [(6, .int (nI (k))), (5, .int (nI (kiTo S b X.rr X.rn k))), (0, .ref 0), (1, .int (nI (b))), (2, .int (nI (0))), (3, .int (nI (S.kd b))), (4, .int (nI (S.fg b)))]) (st' := []) (w' := modW 0 ((kindS S b k (S.fg b))) ((X1.rf, wo, ta, (owF (kindS S b k (S.fg b))), 0, X1.sh, X1.lt, X1.ty, X1.pl, X1.nu, X1.od, X1.tt, X1.oo, X1.on, (wonZ (kindS S b k (S.fg b))), (paidZ (kindS S b k (S.fg b))), X1.li, X1.rr, X1.rn, X1.dr) : ModN) K) rfl rfl rfl ?_
      refine ev_eq (w' := modW 0 ((S.bd, S.st, S.pr, S.ow, (up S.kd b k), S.fg, S.rs, S.ca, S.ac) : SaleN) ((X1.rf, wo, ta, (owF (kindS S b k (S.fg b))), 0, X1.sh, X1.lt, X1.ty, X1.pl, X1.nu, X1.od, X1.tt, X1.oo, X1.on, (wonZ (kindS S b k (S.fg b))), (paidZ (kindS S b k (S.fg b))), X1.li, X1.rr, X1.rn, X1.dr) : ModN) K) rfl rfl (by rw [kind_k]) ?_
      refine ev_b bX7_whatIs_100_103 (lv' := [(6, .int (nI (k))), (5, .int (nI (kiTo S b X.rr X.rn k))), (0, .ref 0), (1, .int (nI (b))), (2, .int (nI (0))), (3, .int (nI (S.kd b))), (4, .int (nI (S.fg b)))]) (st' := [.ref 0, .int (nI (kiTo S b X.rr X.rn k))]) (w2 := modW 0 ((S.bd, S.st, S.pr, S.ow, (up S.kd b k), S.fg, S.rs, S.ca, S.ac) : SaleN) ((X1.rf, wo, ta, (owF (kindS S b k (S.fg b))), 0, X1.sh, X1.lt, X1.ty, X1.pl, X1.nu, X1.od, X1.tt, X1.oo, X1.on, (wonZ (kindS S b k (S.fg b))), (paidZ (kindS S b k (S.fg b))), X1.li, X1.rr, X1.rn, X1.dr) : ModN) K) rfl ?_
      refine ev_callM (Yc := mX7_otherwise) (st := [.int (nI (kiTo S b X.rr X.rn k))]) dX7_whatIs_103 tw_1454 kX7_otherwise (m_X7_otherwise ((S.bd, S.st, S.pr, S.ow, (up S.kd b k), S.fg, S.rs, S.ca, S.ac) : SaleN) ((X1.rf, wo, ta, (owF (kindS S b k (S.fg b))), 0, X1.sh, X1.lt, X1.ty, X1.pl, X1.nu, X1.od, X1.tt, X1.oo, X1.on, (wonZ (kindS S b k (S.fg b))), (paidZ (kindS S b k (S.fg b))), X1.li, X1.rr, X1.rn, X1.dr) : ModN) K (paid_b hU) (show X1.rn ≤ 5 from by rw [hxr]; exact hrn) (show ∀ k, k < X1.rn → X1.rr k ≤ 99 from by rw [hxr, hxq]; exact hrr)) rfl rfl rfl rfl (by decide) (Nat.le_of_ble_eq_true rfl) (Nat.le_refl _) (Nat.le_refl _) (fun r w' h => by obtain ⟨-, rfl⟩ := h; exact mod_eq) ?_
      rintro _ _ ⟨rfl, rfl⟩
      refine ev_eq (lv' := [(6, .int (nI (k))), (5, .int (nI (kiTo S b X.rr X.rn k))), (0, .ref 0), (1, .int (nI (b))), (2, .int (nI (0))), (3, .int (nI (S.kd b))), (4, .int (nI (S.fg b)))]) (st' := [.int (zI (fwZ X1.rr (paidZ (kindS S b k (S.fg b))) X1.rn 0)), .int (nI (kiTo S b X.rr X.rn k))]) (w' := modW 0 ((S.bd, S.st, S.pr, S.ow, (up S.kd b k), S.fg, S.rs, S.ca, S.ac) : SaleN) ((X1.rf, wo, ta, (owF (kindS S b k (S.fg b))), 0, X1.sh, X1.lt, X1.ty, X1.pl, X1.nu, X1.od, X1.tt, X1.oo, X1.on, (wonZ (kindS S b k (S.fg b))), (paidZ (kindS S b k (S.fg b))), X1.li, X1.rr, X1.rn, X1.dr) : ModN) K) rfl rfl rfl ?_
      have hfw := fwZ_bnd (tl := X.rr) (f := paidZ (kindS S b k (S.fg b))) X.rn 0
      have hf2 := fwZ_two (tl := X.rr) (f := paidZ (kindS S b k (S.fg b))) X.rn 0
      refine ev_top (y := (zI (fwZ X.rr (paidZ (kindS S b k (S.fg b))) X.rn 0))) (congrArg zI (show fwZ X1.rr (paidZ (kindS S b k (S.fg b))) X1.rn 0 = fwZ X.rr (paidZ (kindS S b k (S.fg b))) X.rn 0 from by rw [hxr, hxq])) ?_
      refine ev_if_ge_z (tgt := 116) (by constructor <;> omega) dX7_whatIs_106 (by decide) (fun h106 => ?_) (fun h106 => ?_)
      · skip
        have hf9 : ¬ fwZ X.rr (paidZ (kindS S b k (S.fg b))) X.rn 0 = -9 := by omega
        refine ev_b bX7_whatIs_116_117 (lv' := [(6, .int (nI (k))), (5, .int (nI (kiTo S b X.rr X.rn k))), (0, .ref 0), (1, .int (nI (b))), (2, .int (nI (0))), (3, .int (nI (S.kd b))), (4, .int (nI (S.fg b)))]) (st' := [.int (nI (0)), .int (nI (kiTo S b X.rr X.rn k))]) (w2 := modW 0 ((S.bd, S.st, S.pr, S.ow, (up S.kd b k), S.fg, S.rs, S.ca, S.ac) : SaleN) ((X1.rf, wo, ta, (owF (kindS S b k (S.fg b))), 0, X1.sh, X1.lt, X1.ty, X1.pl, X1.nu, X1.od, X1.tt, X1.oo, X1.on, (wonZ (kindS S b k (S.fg b))), (paidZ (kindS S b k (S.fg b))), X1.li, X1.rr, X1.rn, X1.dr) : ModN) K) rfl ?_
        refine ev_ior_n dX7_whatIs_117 ?_
        refine ev_b bX7_whatIs_118_120 (lv' := [(5, .int (nI ((kiTo S b X.rr X.rn k) ||| 0))), (6, .int (nI (k))), (0, .ref 0), (1, .int (nI (b))), (2, .int (nI (0))), (3, .int (nI (S.kd b))), (4, .int (nI (S.fg b)))]) (st' := []) (w2 := modW 0 ((S.bd, S.st, S.pr, S.ow, (up S.kd b k), S.fg, S.rs, S.ca, S.ac) : SaleN) ((X1.rf, wo, ta, (owF (kindS S b k (S.fg b))), 0, X1.sh, X1.lt, X1.ty, X1.pl, X1.nu, X1.od, X1.tt, X1.oo, X1.on, (wonZ (kindS S b k (S.fg b))), (paidZ (kindS S b k (S.fg b))), X1.li, X1.rr, X1.rn, X1.dr) : ModN) K) rfl ?_
        refine ev_iinc_n (x := k) (v := 1) dX7_whatIs_120 rfl (by decide) ?_
        refine ev_eq (lv' := [(6, .int (nI (k + 1))), (5, .int (nI ((kiTo S b X.rr X.rn k) ||| 0))), (0, .ref 0), (1, .int (nI (b))), (2, .int (nI (0))), (3, .int (nI (S.kd b))), (4, .int (nI (S.fg b)))]) rfl rfl rfl ?_
        refine ev_b bX7_whatIs_123_52 (lv' := [(6, .int (nI (k + 1))), (5, .int (nI ((kiTo S b X.rr X.rn k) ||| 0))), (0, .ref 0), (1, .int (nI (b))), (2, .int (nI (0))), (3, .int (nI (S.kd b))), (4, .int (nI (S.fg b)))]) (st' := []) (w2 := modW 0 ((S.bd, S.st, S.pr, S.ow, (up S.kd b k), S.fg, S.rs, S.ca, S.ac) : SaleN) ((X1.rf, wo, ta, (owF (kindS S b k (S.fg b))), 0, X1.sh, X1.lt, X1.ty, X1.pl, X1.nu, X1.od, X1.tt, X1.oo, X1.on, (wonZ (kindS S b k (S.fg b))), (paidZ (kindS S b k (S.fg b))), X1.li, X1.rr, X1.rn, X1.dr) : ModN) K) rfl ?_
        rw [show nI (k + 1) = nI ((k + 1)) from congrArg nI (by omega)]
        rw [show nI ((kiTo S b X.rr X.rn k) ||| 0) = nI (kiTo S b X.rr X.rn (k + 1)) from congrArg nI (by rw [kiTo_s]; first | rw [if_neg hf9, Nat.or_zero] | rw [if_pos hf9])]
        exact ih52 (k + 1) (by omega) (up S.kd b k) _ ⟨fun q => up_up _ _ _ _, mok0_fresh hinv52.2.1.1 rfl, hinv52.2.2⟩
      · skip
        have hf9 : fwZ X.rr (paidZ (kindS S b k (S.fg b))) X.rn 0 = -9 := by omega
        refine ev_b bX7_whatIs_109_112 (lv' := [(6, .int (nI (k))), (5, .int (nI (kiTo S b X.rr X.rn k))), (0, .ref 0), (1, .int (nI (b))), (2, .int (nI (0))), (3, .int (nI (S.kd b))), (4, .int (nI (S.fg b)))]) (st' := [.int (nI (k)), .int (nI (1)), .int (nI (kiTo S b X.rr X.rn k))]) (w2 := modW 0 ((S.bd, S.st, S.pr, S.ow, (up S.kd b k), S.fg, S.rs, S.ca, S.ac) : SaleN) ((X1.rf, wo, ta, (owF (kindS S b k (S.fg b))), 0, X1.sh, X1.lt, X1.ty, X1.pl, X1.nu, X1.od, X1.tt, X1.oo, X1.on, (wonZ (kindS S b k (S.fg b))), (paidZ (kindS S b k (S.fg b))), X1.li, X1.rr, X1.rn, X1.dr) : ModN) K) rfl ?_
        refine ev_ishl_n (by omega) dX7_whatIs_112 ?_
        refine ev_b bX7_whatIs_113_117 (lv' := [(6, .int (nI (k))), (5, .int (nI (kiTo S b X.rr X.rn k))), (0, .ref 0), (1, .int (nI (b))), (2, .int (nI (0))), (3, .int (nI (S.kd b))), (4, .int (nI (S.fg b)))]) (st' := [.int (nI (1 <<< k)), .int (nI (kiTo S b X.rr X.rn k))]) (w2 := modW 0 ((S.bd, S.st, S.pr, S.ow, (up S.kd b k), S.fg, S.rs, S.ca, S.ac) : SaleN) ((X1.rf, wo, ta, (owF (kindS S b k (S.fg b))), 0, X1.sh, X1.lt, X1.ty, X1.pl, X1.nu, X1.od, X1.tt, X1.oo, X1.on, (wonZ (kindS S b k (S.fg b))), (paidZ (kindS S b k (S.fg b))), X1.li, X1.rr, X1.rn, X1.dr) : ModN) K) rfl ?_
        refine ev_ior_n dX7_whatIs_117 ?_
        refine ev_b bX7_whatIs_118_120 (lv' := [(5, .int (nI ((kiTo S b X.rr X.rn k) ||| (1 <<< k)))), (6, .int (nI (k))), (0, .ref 0), (1, .int (nI (b))), (2, .int (nI (0))), (3, .int (nI (S.kd b))), (4, .int (nI (S.fg b)))]) (st' := []) (w2 := modW 0 ((S.bd, S.st, S.pr, S.ow, (up S.kd b k), S.fg, S.rs, S.ca, S.ac) : SaleN) ((X1.rf, wo, ta, (owF (kindS S b k (S.fg b))), 0, X1.sh, X1.lt, X1.ty, X1.pl, X1.nu, X1.od, X1.tt, X1.oo, X1.on, (wonZ (kindS S b k (S.fg b))), (paidZ (kindS S b k (S.fg b))), X1.li, X1.rr, X1.rn, X1.dr) : ModN) K) rfl ?_
        refine ev_iinc_n (x := k) (v := 1) dX7_whatIs_120 rfl (by decide) ?_
        refine ev_eq (lv' := [(6, .int (nI (k + 1))), (5, .int (nI ((kiTo S b X.rr X.rn k) ||| (1 <<< k)))), (0, .ref 0), (1, .int (nI (b))), (2, .int (nI (0))), (3, .int (nI (S.kd b))), (4, .int (nI (S.fg b)))]) rfl rfl rfl ?_
        refine ev_b bX7_whatIs_123_52 (lv' := [(6, .int (nI (k + 1))), (5, .int (nI ((kiTo S b X.rr X.rn k) ||| (1 <<< k)))), (0, .ref 0), (1, .int (nI (b))), (2, .int (nI (0))), (3, .int (nI (S.kd b))), (4, .int (nI (S.fg b)))]) (st' := []) (w2 := modW 0 ((S.bd, S.st, S.pr, S.ow, (up S.kd b k), S.fg, S.rs, S.ca, S.ac) : SaleN) ((X1.rf, wo, ta, (owF (kindS S b k (S.fg b))), 0, X1.sh, X1.lt, X1.ty, X1.pl, X1.nu, X1.od, X1.tt, X1.oo, X1.on, (wonZ (kindS S b k (S.fg b))), (paidZ (kindS S b k (S.fg b))), X1.li, X1.rr, X1.rn, X1.dr) : ModN) K) rfl ?_
        rw [show nI (k + 1) = nI ((k + 1)) from congrArg nI (by omega)]
        rw [show nI ((kiTo S b X.rr X.rn k) ||| (1 <<< k)) = nI (kiTo S b X.rr X.rn (k + 1)) from congrArg nI (by rw [kiTo_s]; first | rw [if_neg hf9, Nat.or_zero] | rw [if_pos hf9])]
        exact ih52 (k + 1) (by omega) (up S.kd b k) _ ⟨fun q => up_up _ _ _ _, mok0_fresh hinv52.2.1.1 rfl, hinv52.2.2⟩
  refine ev_pick (lv' := [(6, .int (nI (0))), (5, .int (nI (0))), (0, .ref 0), (1, .int (nI (b))), (2, .int (nI (0))), (3, .int (nI (S.kd b))), (4, .int (nI (S.fg b)))]) rfl ?_
  exact L52 6 0 (by omega) S.kd X ⟨fun _ => rfl, mok0 hM, xk_self X⟩
theorem bX7_whatIs_63_65 {l : Launch} {E : XE} : Snd l E mX7_whatIs 63 65 (xs [x_push (.int (nI 10))]) := Snd.cons (snd_bipush (v := nI 10) dX7_whatIs_63 (by decide)) Snd.nil
theorem bX7_whatIs_83_90 {l : Launch} {E : XE} : Snd l E mX7_whatIs 83 90 (xs [x_aload 0, x_get 8 2, x_iload 1, x_iload 6]) := Snd.cons (snd_aload_n (i := 0) dX7_whatIs_83 rfl) (Snd.cons (snd_get (ci := 8) (k := 2) dX7_whatIs_84 rfl inX7 (by decide) tw_916) (Snd.cons (snd_iload_n (i := 1) dX7_whatIs_87 rfl) (Snd.cons (snd_iload dX7_whatIs_88) Snd.nil)))
theorem bX7_whatIs_91_93 {l : Launch} {E : XE} : Snd l E mX7_whatIs 91 93 (xs [x_aload 0, x_push (.int (nI 1))]) := Snd.cons (snd_aload_n (i := 0) dX7_whatIs_91 rfl) (Snd.cons (snd_iconst (v := nI 1) dX7_whatIs_92 (by decide)) Snd.nil)
set_option maxHeartbeats 4000000 in
set_option maxRecDepth 100000 in
theorem q_whatIs_w1 {l : Launch} {E : XE} (S : SaleN) (X : ModN) (K : Option (Nat → Nat)) (b : Nat) (hS : SaleOK S) (hM : MOK S X) (hb : b < 5) (hrn : X.rn ≤ 5) (hrr : ∀ k, k < X.rn → X.rr k ≤ 99) : MetE l E mX7_whatIs (7) 0 0 [.ref 0, .int (nI (b)), .int (nI (1))] (modW 0 S X K) (MP S K (X.lt) (X.ty) (X.rr) (X.rn) (X.rf) (some (.int (nI (fiTo S b X.rr X.rn 10))))) := by
  refine MetE.of (by decide +kernel) (Nat.le_of_ble_eq_true rfl) ?_
  have hca := hS.1
  have hpw := pow_ca hS
  have hac := ac_lt hS
  have hshl := shl_le hS
  
  refine ev_eq (lv' := [(0, .ref 0), (1, .int (nI (b))), (2, .int (nI (1)))]) (st' := []) (w' := modW 0 S X K) rfl rfl rfl ?_
  refine ev_b bX7_whatIs_0_3 (lv' := [(0, .ref 0), (1, .int (nI (b))), (2, .int (nI (1)))]) (st' := [.int (nI (4)), .int (nI (0)), .int (nI (b))]) (w2 := modW 0 S X K) rfl ?_
  refine ev_callS (Yc := mX7_isIn) [] dX7_whatIs_3 tw_1036 kX7_isIn (m_X7_isIn_n b 0 4 (by omega) (by decide) (by decide)) rfl (st := []) rfl (by decide) rfl (by decide) (Nat.le_of_ble_eq_true rfl) (Nat.le_refl _) (Nat.le_refl _) (fun r w' h => by obtain ⟨-, rfl⟩ := h; exact Nat.le_of_ble_eq_true rfl) ?_
  rintro _ _ ⟨rfl, rfl⟩
  refine ev_eq (lv' := [(0, .ref 0), (1, .int (nI (b))), (2, .int (nI (1)))]) (st' := [.int (nI (b01 (0 ≤ b ∧ b ≤ 4)))]) (w' := modW 0 S X K) rfl rfl rfl ?_
  refine ev_ifne_b (tgt := 15) dX7_whatIs_6 (by decide) (fun h6 => ?_) (fun h6 => (by exfalso; omega))
  refine ev_b bX7_whatIs_15_18 (lv' := [(0, .ref 0), (1, .int (nI (b))), (2, .int (nI (1)))]) (st' := [.int (nI (1)), .int (nI (0)), .int (nI (1))]) (w2 := modW 0 S X K) rfl ?_
  refine ev_callS (Yc := mX7_isIn) [] dX7_whatIs_18 tw_1036 kX7_isIn (m_X7_isIn_n 1 0 1 (by decide) (by decide) (by decide)) rfl (st := []) rfl (by decide) rfl (by decide) (Nat.le_of_ble_eq_true rfl) (Nat.le_refl _) (Nat.le_refl _) (fun r w' h => by obtain ⟨-, rfl⟩ := h; exact Nat.le_of_ble_eq_true rfl) ?_
  rintro _ _ ⟨rfl, rfl⟩
  refine ev_eq (lv' := [(0, .ref 0), (1, .int (nI (b))), (2, .int (nI (1)))]) (st' := [.int (nI (b01 (0 ≤ 1 ∧ 1 ≤ 1)))]) (w' := modW 0 S X K) rfl rfl rfl ?_
  refine ev_ifne_b (tgt := 31) dX7_whatIs_21 (by decide) (fun h21 => ?_) (fun h21 => (by exfalso; omega))
  refine ev_b bX7_whatIs_31_36 (lv' := [(0, .ref 0), (1, .int (nI (b))), (2, .int (nI (1)))]) (st' := [.int (nI (b)), .ref 2]) (w2 := modW 0 S X K) rfl ?_
  refine ev_iald_n (f := S.kd) dX7_whatIs_36 rfl (by omega) (by decide) ?_
  refine ev_b bX7_whatIs_37_43 (lv' := [(3, .int (nI (S.kd b))), (0, .ref 0), (1, .int (nI (b))), (2, .int (nI (1)))]) (st' := [.int (nI (b)), .ref 3]) (w2 := modW 0 S X K) rfl ?_
  refine ev_iald_n (f := S.fg) dX7_whatIs_43 rfl (by omega) (by decide) ?_
  refine ev_b bX7_whatIs_44_52 (lv' := [(6, .int (nI (0))), (5, .int (nI (0))), (4, .int (nI (S.fg b))), (3, .int (nI (S.kd b))), (0, .ref 0), (1, .int (nI (b))), (2, .int (nI (1)))]) (st' := []) (w2 := modW 0 S X K) rfl ?_
  have L52 : ∀ (j_ k : Nat), k + j_ = 10 → ∀ (g : Nat → Nat) (X1 : ModN), ((∀ q, up g b q = up S.fg b q) ∧ MOK0 X1 ∧ XK X1 X) → Ev l E mX7_whatIs (7) 0 0 (modW 0 S X K) (MP S K (X.lt) (X.ty) (X.rr) (X.rn) (X.rf) (some (.int (nI (fiTo S b X.rr X.rn 10))))) 0 0 52 [(6, .int (nI (k))), (5, .int (nI (fiTo S b X.rr X.rn k))), (0, .ref 0), (1, .int (nI (b))), (2, .int (nI (1))), (3, .int (nI (S.kd b))), (4, .int (nI (S.fg b)))] [] (modW 0 ((S.bd, S.st, S.pr, S.ow, S.kd, g, S.rs, S.ca, S.ac) : SaleN) X1 K) := by
    intro j_
    induction j_ with
    | zero =>
      intro k hk52 g X1 hinv52
      replace hk52 : k = 10 := hk52
      subst hk52
      refine ev_b bX7_whatIs_52_55 (lv' := [(6, .int (nI (10))), (5, .int (nI (fiTo S b X.rr X.rn 10))), (0, .ref 0), (1, .int (nI (b))), (2, .int (nI (1))), (3, .int (nI (S.kd b))), (4, .int (nI (S.fg b)))]) (st' := [.int (nI (1)), .int (nI (10))]) (w2 := modW 0 ((S.bd, S.st, S.pr, S.ow, S.kd, g, S.rs, S.ca, S.ac) : SaleN) X1 K) rfl ?_
      refine ev_if_ne_n (tgt := 63) (by decide) dX7_whatIs_55 (by decide) (fun h55 => ?_) (fun h55 => (by exfalso; omega))
      refine ev_b bX7_whatIs_63_65 (lv' := [(6, .int (nI (10))), (5, .int (nI (fiTo S b X.rr X.rn 10))), (0, .ref 0), (1, .int (nI (b))), (2, .int (nI (1))), (3, .int (nI (S.kd b))), (4, .int (nI (S.fg b)))]) (st' := [.int (nI (10)), .int (nI (10))]) (w2 := modW 0 ((S.bd, S.st, S.pr, S.ow, S.kd, g, S.rs, S.ca, S.ac) : SaleN) X1 K) rfl ?_
      refine ev_icmp_ge_n (tgt := 126) (by decide) (by decide) dX7_whatIs_65 (by decide) (fun h65 => ?_) (fun h65 => (by exfalso; omega))
      refine ev_b bX7_whatIs_126_132 (lv' := [(6, .int (nI (10))), (5, .int (nI (fiTo S b X.rr X.rn 10))), (0, .ref 0), (1, .int (nI (b))), (2, .int (nI (1))), (3, .int (nI (S.kd b))), (4, .int (nI (S.fg b)))]) (st' := [.int (nI (S.kd b)), .int (nI (b)), .ref 2]) (w2 := modW 0 ((S.bd, S.st, S.pr, S.ow, S.kd, g, S.rs, S.ca, S.ac) : SaleN) X1 K) rfl ?_
      refine ev_iast_n (f := S.kd) dX7_whatIs_132 rfl (by omega) (by decide) ?_
      refine ev_eq (w' := modW 0 ((S.bd, S.st, S.pr, S.ow, up S.kd b (S.kd b), g, S.rs, S.ca, S.ac) : SaleN) X1 K) rfl rfl rfl ?_
      refine ev_b bX7_whatIs_133_140 (lv' := [(6, .int (nI (10))), (5, .int (nI (fiTo S b X.rr X.rn 10))), (0, .ref 0), (1, .int (nI (b))), (2, .int (nI (1))), (3, .int (nI (S.kd b))), (4, .int (nI (S.fg b)))]) (st' := [.int (nI (S.fg b)), .int (nI (b)), .ref 3]) (w2 := modW 0 ((S.bd, S.st, S.pr, S.ow, up S.kd b (S.kd b), g, S.rs, S.ca, S.ac) : SaleN) X1 K) rfl ?_
      refine ev_iast_n (f := g) dX7_whatIs_140 rfl (by omega) (by decide) ?_
      refine ev_eq (w' := modW 0 ((S.bd, S.st, S.pr, S.ow, up S.kd b (S.kd b), up g b (S.fg b), S.rs, S.ca, S.ac) : SaleN) X1 K) rfl rfl rfl ?_
      refine ev_b bX7_whatIs_141_143 (lv' := [(6, .int (nI (10))), (5, .int (nI (fiTo S b X.rr X.rn 10))), (0, .ref 0), (1, .int (nI (b))), (2, .int (nI (1))), (3, .int (nI (S.kd b))), (4, .int (nI (S.fg b)))]) (st' := [.int (nI (1)), .ref 0]) (w2 := modW 0 ((S.bd, S.st, S.pr, S.ow, up S.kd b (S.kd b), up g b (S.fg b), S.rs, S.ca, S.ac) : SaleN) X1 K) rfl ?_
      refine snd_put (ci := 8) (k := 12) (a := 0) dX7_whatIs_143 rfl inX7 tyX7_ok nmX7 (by decide) tw_926 rfl rfl (Nat.le_of_ble_eq_true rfl) (fun _ => rfl) (fun _ => rfl) ?_
      refine ev_eq (w' := modW 0 ((S.bd, S.st, S.pr, S.ow, up S.kd b (S.kd b), up g b (S.fg b), S.rs, S.ca, S.ac) : SaleN) ((X1.rf, X1.wo, X1.ta, X1.ow, 1, X1.sh, X1.lt, X1.ty, X1.pl, X1.nu, X1.od, X1.tt, X1.oo, X1.on, X1.wn, X1.pd, X1.li, X1.rr, X1.rn, X1.dr) : ModN) K) rfl rfl rfl ?_
      refine ev_eq (w' := modW 0 S ((X1.rf, X1.wo, X1.ta, X1.ow, 1, X1.sh, X1.lt, X1.ty, X1.pl, X1.nu, X1.od, X1.tt, X1.oo, X1.on, X1.wn, X1.pd, X1.li, X1.rr, X1.rn, X1.dr) : ModN) K) rfl rfl (by rw [hinv52.1, up_same, up_same] <;> rfl) ?_
      refine ev_b bX7_whatIs_146_148 (lv' := [(6, .int (nI (10))), (5, .int (nI (fiTo S b X.rr X.rn 10))), (0, .ref 0), (1, .int (nI (b))), (2, .int (nI (1))), (3, .int (nI (S.kd b))), (4, .int (nI (S.fg b)))]) (st' := [.int (nI (fiTo S b X.rr X.rn 10))]) (w2 := modW 0 S ((X1.rf, X1.wo, X1.ta, X1.ow, 1, X1.sh, X1.lt, X1.ty, X1.pl, X1.nu, X1.od, X1.tt, X1.oo, X1.on, X1.wn, X1.pd, X1.li, X1.rr, X1.rn, X1.dr) : ModN) K) rfl ?_
      exact ev_iret dX7_whatIs_148 rfl mod_le (Nat.le_refl _) (Nat.le_refl _) ⟨rfl, _, rfl, mok_stale hinv52.2.1.1 rfl, hinv52.2.2⟩
    | succ j_ ih52 =>
      intro k hk52 g X1 hinv52
      have hlt52 : k < 10 := by omega
      have hxq := hinv52.2.2.2.2.1
      have hxr := hinv52.2.2.2.2.2.1
      have hkb := hS.2.2.2.1 b hb
      have hU : SaleOK (kindS S b (S.kd b) k) := kind_ok hS (by omega) (by omega)
      refine ev_b bX7_whatIs_52_55 (lv' := [(6, .int (nI (k))), (5, .int (nI (fiTo S b X.rr X.rn k))), (0, .ref 0), (1, .int (nI (b))), (2, .int (nI (1))), (3, .int (nI (S.kd b))), (4, .int (nI (S.fg b)))]) (st' := [.int (nI (1)), .int (nI (k))]) (w2 := modW 0 ((S.bd, S.st, S.pr, S.ow, S.kd, g, S.rs, S.ca, S.ac) : SaleN) X1 K) rfl ?_
      refine ev_if_ne_n (tgt := 63) (by decide) dX7_whatIs_55 (by decide) (fun h55 => ?_) (fun h55 => (by exfalso; omega))
      refine ev_b bX7_whatIs_63_65 (lv' := [(6, .int (nI (k))), (5, .int (nI (fiTo S b X.rr X.rn k))), (0, .ref 0), (1, .int (nI (b))), (2, .int (nI (1))), (3, .int (nI (S.kd b))), (4, .int (nI (S.fg b)))]) (st' := [.int (nI (10)), .int (nI (k))]) (w2 := modW 0 ((S.bd, S.st, S.pr, S.ow, S.kd, g, S.rs, S.ca, S.ac) : SaleN) X1 K) rfl ?_
      refine ev_icmp_ge_n (tgt := 126) (by omega) (by decide) dX7_whatIs_65 (by decide) (fun h65 => (by exfalso; omega)) (fun h65 => ?_)
      refine ev_b bX7_whatIs_68_69 (lv' := [(6, .int (nI (k))), (5, .int (nI (fiTo S b X.rr X.rn k))), (0, .ref 0), (1, .int (nI (b))), (2, .int (nI (1))), (3, .int (nI (S.kd b))), (4, .int (nI (S.fg b)))]) (st' := [.int (nI (1))]) (w2 := modW 0 ((S.bd, S.st, S.pr, S.ow, S.kd, g, S.rs, S.ca, S.ac) : SaleN) X1 K) rfl ?_
      refine ev_if_ne_n (tgt := 83) (by decide) dX7_whatIs_69 (by decide) (fun h69 => ?_) (fun h69 => (by exfalso; omega))
      refine ev_b bX7_whatIs_83_90 (lv' := [(6, .int (nI (k))), (5, .int (nI (fiTo S b X.rr X.rn k))), (0, .ref 0), (1, .int (nI (b))), (2, .int (nI (1))), (3, .int (nI (S.kd b))), (4, .int (nI (S.fg b)))]) (st' := [.int (nI (k)), .int (nI (b)), .ref 3]) (w2 := modW 0 ((S.bd, S.st, S.pr, S.ow, S.kd, g, S.rs, S.ca, S.ac) : SaleN) X1 K) rfl ?_
      refine ev_iast_n (f := g) dX7_whatIs_90 rfl (by omega) (by decide) ?_
      refine ev_eq (w' := modW 0 ((S.bd, S.st, S.pr, S.ow, S.kd, up g b k, S.rs, S.ca, S.ac) : SaleN) X1 K) rfl rfl rfl ?_
      refine ev_b bX7_whatIs_91_93 (lv' := [(6, .int (nI (k))), (5, .int (nI (fiTo S b X.rr X.rn k))), (0, .ref 0), (1, .int (nI (b))), (2, .int (nI (1))), (3, .int (nI (S.kd b))), (4, .int (nI (S.fg b)))]) (st' := [.int (nI (1)), .ref 0]) (w2 := modW 0 ((S.bd, S.st, S.pr, S.ow, S.kd, up g b k, S.rs, S.ca, S.ac) : SaleN) X1 K) rfl ?_
      refine snd_put (ci := 8) (k := 12) (a := 0) dX7_whatIs_93 rfl inX7 tyX7_ok nmX7 (by decide) tw_926 rfl rfl (Nat.le_of_ble_eq_true rfl) (fun _ => rfl) (fun _ => rfl) ?_
      refine ev_eq (w' := modW 0 ((S.bd, S.st, S.pr, S.ow, S.kd, up g b k, S.rs, S.ca, S.ac) : SaleN) ((X1.rf, X1.wo, X1.ta, X1.ow, 1, X1.sh, X1.lt, X1.ty, X1.pl, X1.nu, X1.od, X1.tt, X1.oo, X1.on, X1.wn, X1.pd, X1.li, X1.rr, X1.rn, X1.dr) : ModN) K) rfl rfl rfl ?_
      refine ev_b bX7_whatIs_96_97 (lv' := [(6, .int (nI (k))), (5, .int (nI (fiTo S b X.rr X.rn k))), (0, .ref 0), (1, .int (nI (b))), (2, .int (nI (1))), (3, .int (nI (S.kd b))), (4, .int (nI (S.fg b)))]) (st' := [.ref 0]) (w2 := modW 0 ((S.bd, S.st, S.pr, S.ow, S.kd, up g b k, S.rs, S.ca, S.ac) : SaleN) ((X1.rf, X1.wo, X1.ta, X1.ow, 1, X1.sh, X1.lt, X1.ty, X1.pl, X1.nu, X1.od, X1.tt, X1.oo, X1.on, X1.wn, X1.pd, X1.li, X1.rr, X1.rn, X1.dr) : ModN) K) rfl ?_
      refine ev_eq (w' := modW 0 ((kindS S b (S.kd b) k)) ((X1.rf, X1.wo, X1.ta, X1.ow, 1, X1.sh, X1.lt, X1.ty, X1.pl, X1.nu, X1.od, X1.tt, X1.oo, X1.on, X1.wn, X1.pd, X1.li, X1.rr, X1.rn, X1.dr) : ModN) K) rfl rfl (by rw [hinv52.1, kind_f]) ?_
      refine ev_callM (Yc := mX7_findHarm) (st := []) dX7_whatIs_97 tw_1224 kX7_findHarm (m_X7_findHarm ((kindS S b (S.kd b) k)) ((X1.rf, X1.wo, X1.ta, X1.ow, 1, X1.sh, X1.lt, X1.ty, X1.pl, X1.nu, X1.od, X1.tt, X1.oo, X1.on, X1.wn, X1.pd, X1.li, X1.rr, X1.rn, X1.dr) : ModN) K hU (mok_stale hinv52.2.1.1 rfl)) rfl rfl rfl rfl (by decide) (Nat.le_of_ble_eq_true rfl) (Nat.le_refl _) (Nat.le_refl _) (fun r w' h => by obtain ⟨-, wo, ta, rfl, -⟩ := h; exact mod_eq) ?_
      rintro _ _ ⟨rfl, wo, ta, rfl, hT⟩
      refine ev_eq (lv' := [(6, .int (nI (k))), (5, .int (nI (fiTo S b X.rr X.rn k))), (0, .ref 0), (1, .int (nI (b))), (2, .int (nI (1))), (3, .int (nI (S.kd b))), (4, .int (nI (S.fg b)))]) (st' := []) (w' := modW 0 ((kindS S b (S.kd b) k)) ((X1.rf, wo, ta, (owF (kindS S b (S.kd b) k)), 0, X1.sh, X1.lt, X1.ty, X1.pl, X1.nu, X1.od, X1.tt, X1.oo, X1.on, (wonZ (kindS S b (S.kd b) k)), (paidZ (kindS S b (S.kd b) k)), X1.li, X1.rr, X1.rn, X1.dr) : ModN) K) rfl rfl rfl ?_
      refine ev_eq (w' := modW 0 ((S.bd, S.st, S.pr, S.ow, S.kd, (up S.fg b k), S.rs, S.ca, S.ac) : SaleN) ((X1.rf, wo, ta, (owF (kindS S b (S.kd b) k)), 0, X1.sh, X1.lt, X1.ty, X1.pl, X1.nu, X1.od, X1.tt, X1.oo, X1.on, (wonZ (kindS S b (S.kd b) k)), (paidZ (kindS S b (S.kd b) k)), X1.li, X1.rr, X1.rn, X1.dr) : ModN) K) rfl rfl (by rw [kind_f]) ?_
      refine ev_b bX7_whatIs_100_103 (lv' := [(6, .int (nI (k))), (5, .int (nI (fiTo S b X.rr X.rn k))), (0, .ref 0), (1, .int (nI (b))), (2, .int (nI (1))), (3, .int (nI (S.kd b))), (4, .int (nI (S.fg b)))]) (st' := [.ref 0, .int (nI (fiTo S b X.rr X.rn k))]) (w2 := modW 0 ((S.bd, S.st, S.pr, S.ow, S.kd, (up S.fg b k), S.rs, S.ca, S.ac) : SaleN) ((X1.rf, wo, ta, (owF (kindS S b (S.kd b) k)), 0, X1.sh, X1.lt, X1.ty, X1.pl, X1.nu, X1.od, X1.tt, X1.oo, X1.on, (wonZ (kindS S b (S.kd b) k)), (paidZ (kindS S b (S.kd b) k)), X1.li, X1.rr, X1.rn, X1.dr) : ModN) K) rfl ?_
      refine ev_callM (Yc := mX7_otherwise) (st := [.int (nI (fiTo S b X.rr X.rn k))]) dX7_whatIs_103 tw_1454 kX7_otherwise (m_X7_otherwise ((S.bd, S.st, S.pr, S.ow, S.kd, (up S.fg b k), S.rs, S.ca, S.ac) : SaleN) ((X1.rf, wo, ta, (owF (kindS S b (S.kd b) k)), 0, X1.sh, X1.lt, X1.ty, X1.pl, X1.nu, X1.od, X1.tt, X1.oo, X1.on, (wonZ (kindS S b (S.kd b) k)), (paidZ (kindS S b (S.kd b) k)), X1.li, X1.rr, X1.rn, X1.dr) : ModN) K (paid_b hU) (show X1.rn ≤ 5 from by rw [hxr]; exact hrn) (show ∀ k, k < X1.rn → X1.rr k ≤ 99 from by rw [hxr, hxq]; exact hrr)) rfl rfl rfl rfl (by decide) (Nat.le_of_ble_eq_true rfl) (Nat.le_refl _) (Nat.le_refl _) (fun r w' h => by obtain ⟨-, rfl⟩ := h; exact mod_eq) ?_
      rintro _ _ ⟨rfl, rfl⟩
      refine ev_eq (lv' := [(6, .int (nI (k))), (5, .int (nI (fiTo S b X.rr X.rn k))), (0, .ref 0), (1, .int (nI (b))), (2, .int (nI (1))), (3, .int (nI (S.kd b))), (4, .int (nI (S.fg b)))]) (st' := [.int (zI (fwZ X1.rr (paidZ (kindS S b (S.kd b) k)) X1.rn 0)), .int (nI (fiTo S b X.rr X.rn k))]) (w' := modW 0 ((S.bd, S.st, S.pr, S.ow, S.kd, (up S.fg b k), S.rs, S.ca, S.ac) : SaleN) ((X1.rf, wo, ta, (owF (kindS S b (S.kd b) k)), 0, X1.sh, X1.lt, X1.ty, X1.pl, X1.nu, X1.od, X1.tt, X1.oo, X1.on, (wonZ (kindS S b (S.kd b) k)), (paidZ (kindS S b (S.kd b) k)), X1.li, X1.rr, X1.rn, X1.dr) : ModN) K) rfl rfl rfl ?_
      have hfw := fwZ_bnd (tl := X.rr) (f := paidZ (kindS S b (S.kd b) k)) X.rn 0
      have hf2 := fwZ_two (tl := X.rr) (f := paidZ (kindS S b (S.kd b) k)) X.rn 0
      refine ev_top (y := (zI (fwZ X.rr (paidZ (kindS S b (S.kd b) k)) X.rn 0))) (congrArg zI (show fwZ X1.rr (paidZ (kindS S b (S.kd b) k)) X1.rn 0 = fwZ X.rr (paidZ (kindS S b (S.kd b) k)) X.rn 0 from by rw [hxr, hxq])) ?_
      refine ev_if_ge_z (tgt := 116) (by constructor <;> omega) dX7_whatIs_106 (by decide) (fun h106 => ?_) (fun h106 => ?_)
      · skip
        have hf9 : ¬ fwZ X.rr (paidZ (kindS S b (S.kd b) k)) X.rn 0 = -9 := by omega
        refine ev_b bX7_whatIs_116_117 (lv' := [(6, .int (nI (k))), (5, .int (nI (fiTo S b X.rr X.rn k))), (0, .ref 0), (1, .int (nI (b))), (2, .int (nI (1))), (3, .int (nI (S.kd b))), (4, .int (nI (S.fg b)))]) (st' := [.int (nI (0)), .int (nI (fiTo S b X.rr X.rn k))]) (w2 := modW 0 ((S.bd, S.st, S.pr, S.ow, S.kd, (up S.fg b k), S.rs, S.ca, S.ac) : SaleN) ((X1.rf, wo, ta, (owF (kindS S b (S.kd b) k)), 0, X1.sh, X1.lt, X1.ty, X1.pl, X1.nu, X1.od, X1.tt, X1.oo, X1.on, (wonZ (kindS S b (S.kd b) k)), (paidZ (kindS S b (S.kd b) k)), X1.li, X1.rr, X1.rn, X1.dr) : ModN) K) rfl ?_
        refine ev_ior_n dX7_whatIs_117 ?_
        refine ev_b bX7_whatIs_118_120 (lv' := [(5, .int (nI ((fiTo S b X.rr X.rn k) ||| 0))), (6, .int (nI (k))), (0, .ref 0), (1, .int (nI (b))), (2, .int (nI (1))), (3, .int (nI (S.kd b))), (4, .int (nI (S.fg b)))]) (st' := []) (w2 := modW 0 ((S.bd, S.st, S.pr, S.ow, S.kd, (up S.fg b k), S.rs, S.ca, S.ac) : SaleN) ((X1.rf, wo, ta, (owF (kindS S b (S.kd b) k)), 0, X1.sh, X1.lt, X1.ty, X1.pl, X1.nu, X1.od, X1.tt, X1.oo, X1.on, (wonZ (kindS S b (S.kd b) k)), (paidZ (kindS S b (S.kd b) k)), X1.li, X1.rr, X1.rn, X1.dr) : ModN) K) rfl ?_
        refine ev_iinc_n (x := k) (v := 1) dX7_whatIs_120 rfl (by decide) ?_
        refine ev_eq (lv' := [(6, .int (nI (k + 1))), (5, .int (nI ((fiTo S b X.rr X.rn k) ||| 0))), (0, .ref 0), (1, .int (nI (b))), (2, .int (nI (1))), (3, .int (nI (S.kd b))), (4, .int (nI (S.fg b)))]) rfl rfl rfl ?_
        refine ev_b bX7_whatIs_123_52 (lv' := [(6, .int (nI (k + 1))), (5, .int (nI ((fiTo S b X.rr X.rn k) ||| 0))), (0, .ref 0), (1, .int (nI (b))), (2, .int (nI (1))), (3, .int (nI (S.kd b))), (4, .int (nI (S.fg b)))]) (st' := []) (w2 := modW 0 ((S.bd, S.st, S.pr, S.ow, S.kd, (up S.fg b k), S.rs, S.ca, S.ac) : SaleN) ((X1.rf, wo, ta, (owF (kindS S b (S.kd b) k)), 0, X1.sh, X1.lt, X1.ty, X1.pl, X1.nu, X1.od, X1.tt, X1.oo, X1.on, (wonZ (kindS S b (S.kd b) k)), (paidZ (kindS S b (S.kd b) k)), X1.li, X1.rr, X1.rn, X1.dr) : ModN) K) rfl ?_
        rw [show nI (k + 1) = nI ((k + 1)) from congrArg nI (by omega)]
        rw [show nI ((fiTo S b X.rr X.rn k) ||| 0) = nI (fiTo S b X.rr X.rn (k + 1)) from congrArg nI (by rw [fiTo_s]; first | rw [if_neg hf9, Nat.or_zero] | rw [if_pos hf9])]
        exact ih52 (k + 1) (by omega) (up S.fg b k) _ ⟨fun q => up_up _ _ _ _, mok0_fresh hinv52.2.1.1 rfl, hinv52.2.2⟩
      · skip
        have hf9 : fwZ X.rr (paidZ (kindS S b (S.kd b) k)) X.rn 0 = -9 := by omega
        refine ev_b bX7_whatIs_109_112 (lv' := [(6, .int (nI (k))), (5, .int (nI (fiTo S b X.rr X.rn k))), (0, .ref 0), (1, .int (nI (b))), (2, .int (nI (1))), (3, .int (nI (S.kd b))), (4, .int (nI (S.fg b)))]) (st' := [.int (nI (k)), .int (nI (1)), .int (nI (fiTo S b X.rr X.rn k))]) (w2 := modW 0 ((S.bd, S.st, S.pr, S.ow, S.kd, (up S.fg b k), S.rs, S.ca, S.ac) : SaleN) ((X1.rf, wo, ta, (owF (kindS S b (S.kd b) k)), 0, X1.sh, X1.lt, X1.ty, X1.pl, X1.nu, X1.od, X1.tt, X1.oo, X1.on, (wonZ (kindS S b (S.kd b) k)), (paidZ (kindS S b (S.kd b) k)), X1.li, X1.rr, X1.rn, X1.dr) : ModN) K) rfl ?_
        refine ev_ishl_n (by omega) dX7_whatIs_112 ?_
        refine ev_b bX7_whatIs_113_117 (lv' := [(6, .int (nI (k))), (5, .int (nI (fiTo S b X.rr X.rn k))), (0, .ref 0), (1, .int (nI (b))), (2, .int (nI (1))), (3, .int (nI (S.kd b))), (4, .int (nI (S.fg b)))]) (st' := [.int (nI (1 <<< k)), .int (nI (fiTo S b X.rr X.rn k))]) (w2 := modW 0 ((S.bd, S.st, S.pr, S.ow, S.kd, (up S.fg b k), S.rs, S.ca, S.ac) : SaleN) ((X1.rf, wo, ta, (owF (kindS S b (S.kd b) k)), 0, X1.sh, X1.lt, X1.ty, X1.pl, X1.nu, X1.od, X1.tt, X1.oo, X1.on, (wonZ (kindS S b (S.kd b) k)), (paidZ (kindS S b (S.kd b) k)), X1.li, X1.rr, X1.rn, X1.dr) : ModN) K) rfl ?_
        refine ev_ior_n dX7_whatIs_117 ?_
        refine ev_b bX7_whatIs_118_120 (lv' := [(5, .int (nI ((fiTo S b X.rr X.rn k) ||| (1 <<< k)))), (6, .int (nI (k))), (0, .ref 0), (1, .int (nI (b))), (2, .int (nI (1))), (3, .int (nI (S.kd b))), (4, .int (nI (S.fg b)))]) (st' := []) (w2 := modW 0 ((S.bd, S.st, S.pr, S.ow, S.kd, (up S.fg b k), S.rs, S.ca, S.ac) : SaleN) ((X1.rf, wo, ta, (owF (kindS S b (S.kd b) k)), 0, X1.sh, X1.lt, X1.ty, X1.pl, X1.nu, X1.od, X1.tt, X1.oo, X1.on, (wonZ (kindS S b (S.kd b) k)), (paidZ (kindS S b (S.kd b) k)), X1.li, X1.rr, X1.rn, X1.dr) : ModN) K) rfl ?_
        refine ev_iinc_n (x := k) (v := 1) dX7_whatIs_120 rfl (by decide) ?_
        refine ev_eq (lv' := [(6, .int (nI (k + 1))), (5, .int (nI ((fiTo S b X.rr X.rn k) ||| (1 <<< k)))), (0, .ref 0), (1, .int (nI (b))), (2, .int (nI (1))), (3, .int (nI (S.kd b))), (4, .int (nI (S.fg b)))]) rfl rfl rfl ?_
        refine ev_b bX7_whatIs_123_52 (lv' := [(6, .int (nI (k + 1))), (5, .int (nI ((fiTo S b X.rr X.rn k) ||| (1 <<< k)))), (0, .ref 0), (1, .int (nI (b))), (2, .int (nI (1))), (3, .int (nI (S.kd b))), (4, .int (nI (S.fg b)))]) (st' := []) (w2 := modW 0 ((S.bd, S.st, S.pr, S.ow, S.kd, (up S.fg b k), S.rs, S.ca, S.ac) : SaleN) ((X1.rf, wo, ta, (owF (kindS S b (S.kd b) k)), 0, X1.sh, X1.lt, X1.ty, X1.pl, X1.nu, X1.od, X1.tt, X1.oo, X1.on, (wonZ (kindS S b (S.kd b) k)), (paidZ (kindS S b (S.kd b) k)), X1.li, X1.rr, X1.rn, X1.dr) : ModN) K) rfl ?_
        rw [show nI (k + 1) = nI ((k + 1)) from congrArg nI (by omega)]
        rw [show nI ((fiTo S b X.rr X.rn k) ||| (1 <<< k)) = nI (fiTo S b X.rr X.rn (k + 1)) from congrArg nI (by rw [fiTo_s]; first | rw [if_neg hf9, Nat.or_zero] | rw [if_pos hf9])]
        exact ih52 (k + 1) (by omega) (up S.fg b k) _ ⟨fun q => up_up _ _ _ _, mok0_fresh hinv52.2.1.1 rfl, hinv52.2.2⟩
  refine ev_pick (lv' := [(6, .int (nI (0))), (5, .int (nI (0))), (0, .ref 0), (1, .int (nI (b))), (2, .int (nI (1))), (3, .int (nI (S.kd b))), (4, .int (nI (S.fg b)))]) rfl ?_
  exact L52 10 0 (by omega) S.fg X ⟨fun _ => rfl, mok0 hM, xk_self X⟩
