theorem bX7_refuses_0_5 {l : Launch} {E : XE} : Snd l E mX7_refuses 0 5 (xs [x_aload 0, x_get 8 8, x_iload 1]) := Snd.cons (snd_aload_n (i := 0) dX7_refuses_0 rfl) (Snd.cons (snd_get (ci := 8) (k := 8) dX7_refuses_1 rfl inX7 (by decide) tw_922) (Snd.cons (snd_iload_n (i := 1) dX7_refuses_4 rfl) Snd.nil))
theorem bX7_refuses_6_7 {l : Launch} {E : XE} : Snd l E mX7_refuses 6 7 (xs [x_dup2]) := Snd.cons (snd_dup2 dX7_refuses_6) Snd.nil
theorem bX7_refuses_8_9 {l : Launch} {E : XE} : Snd l E mX7_refuses 8 9 (xs [x_push (.int (nI 1))]) := Snd.cons (snd_iconst (v := nI 1) dX7_refuses_8 (by decide)) Snd.nil
theorem bX7_refuses_11_12 {l : Launch} {E : XE} : Snd l E mX7_refuses 11 12 (xs [x_iload 1]) := Snd.cons (snd_iload_n (i := 1) dX7_refuses_11 rfl) Snd.nil
set_option maxHeartbeats 4000000 in
set_option maxRecDepth 100000 in
theorem m_X7_refuses_1 {l : Launch} {E : XE} (S : SaleN) (X : ModN) (K : Option (Nat → Nat))  : MetE l E mX7_refuses (0) 0 0 [.ref 0, .int (-1)] (modW 0 S X K) (fun r w' => r = some (.int (-1)) ∧ w' = modW 0 S (((up X.rf 1 (X.rf 1 + 1)), X.wo, X.ta, X.ow, X.sl, X.sh, X.lt, X.ty, X.pl, X.nu, X.od, X.tt, X.oo, X.on, X.wn, X.pd, X.li, X.rr, X.rn, X.dr) : ModN) K) := by
  refine MetE.of (by decide +kernel) (Nat.le_of_ble_eq_true rfl) ?_
  refine ev_eq (lv' := [(0, .ref 0), (1, .int (-1))]) (st' := []) (w' := modW 0 S X K) rfl rfl rfl ?_
  refine ev_b bX7_refuses_0_5 (lv' := [(0, .ref 0), (1, .int (-1))]) (st' := [.int (-1), .ref 7]) (w2 := modW 0 S X K) rfl ?_
  refine ev_top (y := zI (-1)) (by decide) ?_
  refine ev_ineg_z dX7_refuses_5 ?_
  refine ev_top (y := (nI (1))) (by rw [show -(-1) = ((1 : Nat) : Int) from by omega]; exact zI_nat _) ?_
  refine ev_b bX7_refuses_6_7 (lv' := [(0, .ref 0), (1, .int (-1))]) (st' := [.int (nI (1)), .ref 7, .int (nI (1)), .ref 7]) (w2 := modW 0 S X K) rfl ?_
  refine ev_iald_n (f := X.rf) dX7_refuses_7 rfl (by omega) (by decide) ?_
  refine ev_b bX7_refuses_8_9 (lv' := [(0, .ref 0), (1, .int (-1))]) (st' := [.int (nI (1)), .int (nI (X.rf 1)), .int (nI (1)), .ref 7]) (w2 := modW 0 S X K) rfl ?_
  refine ev_iadd_n dX7_refuses_9 ?_
  refine ev_iast_n (f := X.rf) dX7_refuses_10 rfl (by omega) (by decide) ?_
  refine ev_eq (w' := modW 0 S ((up X.rf 1 ((X.rf 1) + 1), X.wo, X.ta, X.ow, X.sl, X.sh, X.lt, X.ty, X.pl, X.nu, X.od, X.tt, X.oo, X.on, X.wn, X.pd, X.li, X.rr, X.rn, X.dr) : ModN) K) rfl rfl rfl ?_
  refine ev_b bX7_refuses_11_12 (lv' := [(0, .ref 0), (1, .int (-1))]) (st' := [.int (-1)]) (w2 := modW 0 S ((up X.rf 1 ((X.rf 1) + 1), X.wo, X.ta, X.ow, X.sl, X.sh, X.lt, X.ty, X.pl, X.nu, X.od, X.tt, X.oo, X.on, X.wn, X.pd, X.li, X.rr, X.rn, X.dr) : ModN) K) rfl ?_
  exact ev_iret dX7_refuses_12 rfl mod_le (Nat.le_refl _) (Nat.le_refl _) ⟨rfl, (by rfl)⟩
set_option maxHeartbeats 4000000 in
set_option maxRecDepth 100000 in
theorem m_X7_refuses_2 {l : Launch} {E : XE} (S : SaleN) (X : ModN) (K : Option (Nat → Nat))  : MetE l E mX7_refuses (0) 0 0 [.ref 0, .int (-2)] (modW 0 S X K) (fun r w' => r = some (.int (-2)) ∧ w' = modW 0 S (((up X.rf 2 (X.rf 2 + 1)), X.wo, X.ta, X.ow, X.sl, X.sh, X.lt, X.ty, X.pl, X.nu, X.od, X.tt, X.oo, X.on, X.wn, X.pd, X.li, X.rr, X.rn, X.dr) : ModN) K) := by
  refine MetE.of (by decide +kernel) (Nat.le_of_ble_eq_true rfl) ?_
  refine ev_eq (lv' := [(0, .ref 0), (1, .int (-2))]) (st' := []) (w' := modW 0 S X K) rfl rfl rfl ?_
  refine ev_b bX7_refuses_0_5 (lv' := [(0, .ref 0), (1, .int (-2))]) (st' := [.int (-2), .ref 7]) (w2 := modW 0 S X K) rfl ?_
  refine ev_top (y := zI (-2)) (by decide) ?_
  refine ev_ineg_z dX7_refuses_5 ?_
  refine ev_top (y := (nI (2))) (by rw [show -(-2) = ((2 : Nat) : Int) from by omega]; exact zI_nat _) ?_
  refine ev_b bX7_refuses_6_7 (lv' := [(0, .ref 0), (1, .int (-2))]) (st' := [.int (nI (2)), .ref 7, .int (nI (2)), .ref 7]) (w2 := modW 0 S X K) rfl ?_
  refine ev_iald_n (f := X.rf) dX7_refuses_7 rfl (by omega) (by decide) ?_
  refine ev_b bX7_refuses_8_9 (lv' := [(0, .ref 0), (1, .int (-2))]) (st' := [.int (nI (1)), .int (nI (X.rf 2)), .int (nI (2)), .ref 7]) (w2 := modW 0 S X K) rfl ?_
  refine ev_iadd_n dX7_refuses_9 ?_
  refine ev_iast_n (f := X.rf) dX7_refuses_10 rfl (by omega) (by decide) ?_
  refine ev_eq (w' := modW 0 S ((up X.rf 2 ((X.rf 2) + 1), X.wo, X.ta, X.ow, X.sl, X.sh, X.lt, X.ty, X.pl, X.nu, X.od, X.tt, X.oo, X.on, X.wn, X.pd, X.li, X.rr, X.rn, X.dr) : ModN) K) rfl rfl rfl ?_
  refine ev_b bX7_refuses_11_12 (lv' := [(0, .ref 0), (1, .int (-2))]) (st' := [.int (-2)]) (w2 := modW 0 S ((up X.rf 2 ((X.rf 2) + 1), X.wo, X.ta, X.ow, X.sl, X.sh, X.lt, X.ty, X.pl, X.nu, X.od, X.tt, X.oo, X.on, X.wn, X.pd, X.li, X.rr, X.rn, X.dr) : ModN) K) rfl ?_
  exact ev_iret dX7_refuses_12 rfl mod_le (Nat.le_refl _) (Nat.le_refl _) ⟨rfl, (by rfl)⟩
set_option maxHeartbeats 4000000 in
set_option maxRecDepth 100000 in
theorem m_X7_refuses_3 {l : Launch} {E : XE} (S : SaleN) (X : ModN) (K : Option (Nat → Nat))  : MetE l E mX7_refuses (0) 0 0 [.ref 0, .int (-3)] (modW 0 S X K) (fun r w' => r = some (.int (-3)) ∧ w' = modW 0 S (((up X.rf 3 (X.rf 3 + 1)), X.wo, X.ta, X.ow, X.sl, X.sh, X.lt, X.ty, X.pl, X.nu, X.od, X.tt, X.oo, X.on, X.wn, X.pd, X.li, X.rr, X.rn, X.dr) : ModN) K) := by
  refine MetE.of (by decide +kernel) (Nat.le_of_ble_eq_true rfl) ?_
  refine ev_eq (lv' := [(0, .ref 0), (1, .int (-3))]) (st' := []) (w' := modW 0 S X K) rfl rfl rfl ?_
  refine ev_b bX7_refuses_0_5 (lv' := [(0, .ref 0), (1, .int (-3))]) (st' := [.int (-3), .ref 7]) (w2 := modW 0 S X K) rfl ?_
  refine ev_top (y := zI (-3)) (by decide) ?_
  refine ev_ineg_z dX7_refuses_5 ?_
  refine ev_top (y := (nI (3))) (by rw [show -(-3) = ((3 : Nat) : Int) from by omega]; exact zI_nat _) ?_
  refine ev_b bX7_refuses_6_7 (lv' := [(0, .ref 0), (1, .int (-3))]) (st' := [.int (nI (3)), .ref 7, .int (nI (3)), .ref 7]) (w2 := modW 0 S X K) rfl ?_
  refine ev_iald_n (f := X.rf) dX7_refuses_7 rfl (by omega) (by decide) ?_
  refine ev_b bX7_refuses_8_9 (lv' := [(0, .ref 0), (1, .int (-3))]) (st' := [.int (nI (1)), .int (nI (X.rf 3)), .int (nI (3)), .ref 7]) (w2 := modW 0 S X K) rfl ?_
  refine ev_iadd_n dX7_refuses_9 ?_
  refine ev_iast_n (f := X.rf) dX7_refuses_10 rfl (by omega) (by decide) ?_
  refine ev_eq (w' := modW 0 S ((up X.rf 3 ((X.rf 3) + 1), X.wo, X.ta, X.ow, X.sl, X.sh, X.lt, X.ty, X.pl, X.nu, X.od, X.tt, X.oo, X.on, X.wn, X.pd, X.li, X.rr, X.rn, X.dr) : ModN) K) rfl rfl rfl ?_
  refine ev_b bX7_refuses_11_12 (lv' := [(0, .ref 0), (1, .int (-3))]) (st' := [.int (-3)]) (w2 := modW 0 S ((up X.rf 3 ((X.rf 3) + 1), X.wo, X.ta, X.ow, X.sl, X.sh, X.lt, X.ty, X.pl, X.nu, X.od, X.tt, X.oo, X.on, X.wn, X.pd, X.li, X.rr, X.rn, X.dr) : ModN) K) rfl ?_
  exact ev_iret dX7_refuses_12 rfl mod_le (Nat.le_refl _) (Nat.le_refl _) ⟨rfl, (by rfl)⟩
set_option maxHeartbeats 4000000 in
set_option maxRecDepth 100000 in
theorem m_X7_refuses_4 {l : Launch} {E : XE} (S : SaleN) (X : ModN) (K : Option (Nat → Nat))  : MetE l E mX7_refuses (0) 0 0 [.ref 0, .int (-4)] (modW 0 S X K) (fun r w' => r = some (.int (-4)) ∧ w' = modW 0 S (((up X.rf 4 (X.rf 4 + 1)), X.wo, X.ta, X.ow, X.sl, X.sh, X.lt, X.ty, X.pl, X.nu, X.od, X.tt, X.oo, X.on, X.wn, X.pd, X.li, X.rr, X.rn, X.dr) : ModN) K) := by
  refine MetE.of (by decide +kernel) (Nat.le_of_ble_eq_true rfl) ?_
  refine ev_eq (lv' := [(0, .ref 0), (1, .int (-4))]) (st' := []) (w' := modW 0 S X K) rfl rfl rfl ?_
  refine ev_b bX7_refuses_0_5 (lv' := [(0, .ref 0), (1, .int (-4))]) (st' := [.int (-4), .ref 7]) (w2 := modW 0 S X K) rfl ?_
  refine ev_top (y := zI (-4)) (by decide) ?_
  refine ev_ineg_z dX7_refuses_5 ?_
  refine ev_top (y := (nI (4))) (by rw [show -(-4) = ((4 : Nat) : Int) from by omega]; exact zI_nat _) ?_
  refine ev_b bX7_refuses_6_7 (lv' := [(0, .ref 0), (1, .int (-4))]) (st' := [.int (nI (4)), .ref 7, .int (nI (4)), .ref 7]) (w2 := modW 0 S X K) rfl ?_
  refine ev_iald_n (f := X.rf) dX7_refuses_7 rfl (by omega) (by decide) ?_
  refine ev_b bX7_refuses_8_9 (lv' := [(0, .ref 0), (1, .int (-4))]) (st' := [.int (nI (1)), .int (nI (X.rf 4)), .int (nI (4)), .ref 7]) (w2 := modW 0 S X K) rfl ?_
  refine ev_iadd_n dX7_refuses_9 ?_
  refine ev_iast_n (f := X.rf) dX7_refuses_10 rfl (by omega) (by decide) ?_
  refine ev_eq (w' := modW 0 S ((up X.rf 4 ((X.rf 4) + 1), X.wo, X.ta, X.ow, X.sl, X.sh, X.lt, X.ty, X.pl, X.nu, X.od, X.tt, X.oo, X.on, X.wn, X.pd, X.li, X.rr, X.rn, X.dr) : ModN) K) rfl rfl rfl ?_
  refine ev_b bX7_refuses_11_12 (lv' := [(0, .ref 0), (1, .int (-4))]) (st' := [.int (-4)]) (w2 := modW 0 S ((up X.rf 4 ((X.rf 4) + 1), X.wo, X.ta, X.ow, X.sl, X.sh, X.lt, X.ty, X.pl, X.nu, X.od, X.tt, X.oo, X.on, X.wn, X.pd, X.li, X.rr, X.rn, X.dr) : ModN) K) rfl ?_
  exact ev_iret dX7_refuses_12 rfl mod_le (Nat.le_refl _) (Nat.le_refl _) ⟨rfl, (by rfl)⟩
set_option maxHeartbeats 4000000 in
set_option maxRecDepth 100000 in
theorem m_X7_refuses_6 {l : Launch} {E : XE} (S : SaleN) (X : ModN) (K : Option (Nat → Nat))  : MetE l E mX7_refuses (0) 0 0 [.ref 0, .int (-6)] (modW 0 S X K) (fun r w' => r = some (.int (-6)) ∧ w' = modW 0 S (((up X.rf 6 (X.rf 6 + 1)), X.wo, X.ta, X.ow, X.sl, X.sh, X.lt, X.ty, X.pl, X.nu, X.od, X.tt, X.oo, X.on, X.wn, X.pd, X.li, X.rr, X.rn, X.dr) : ModN) K) := by
  refine MetE.of (by decide +kernel) (Nat.le_of_ble_eq_true rfl) ?_
  refine ev_eq (lv' := [(0, .ref 0), (1, .int (-6))]) (st' := []) (w' := modW 0 S X K) rfl rfl rfl ?_
  refine ev_b bX7_refuses_0_5 (lv' := [(0, .ref 0), (1, .int (-6))]) (st' := [.int (-6), .ref 7]) (w2 := modW 0 S X K) rfl ?_
  refine ev_top (y := zI (-6)) (by decide) ?_
  refine ev_ineg_z dX7_refuses_5 ?_
  refine ev_top (y := (nI (6))) (by rw [show -(-6) = ((6 : Nat) : Int) from by omega]; exact zI_nat _) ?_
  refine ev_b bX7_refuses_6_7 (lv' := [(0, .ref 0), (1, .int (-6))]) (st' := [.int (nI (6)), .ref 7, .int (nI (6)), .ref 7]) (w2 := modW 0 S X K) rfl ?_
  refine ev_iald_n (f := X.rf) dX7_refuses_7 rfl (by omega) (by decide) ?_
  refine ev_b bX7_refuses_8_9 (lv' := [(0, .ref 0), (1, .int (-6))]) (st' := [.int (nI (1)), .int (nI (X.rf 6)), .int (nI (6)), .ref 7]) (w2 := modW 0 S X K) rfl ?_
  refine ev_iadd_n dX7_refuses_9 ?_
  refine ev_iast_n (f := X.rf) dX7_refuses_10 rfl (by omega) (by decide) ?_
  refine ev_eq (w' := modW 0 S ((up X.rf 6 ((X.rf 6) + 1), X.wo, X.ta, X.ow, X.sl, X.sh, X.lt, X.ty, X.pl, X.nu, X.od, X.tt, X.oo, X.on, X.wn, X.pd, X.li, X.rr, X.rn, X.dr) : ModN) K) rfl rfl rfl ?_
  refine ev_b bX7_refuses_11_12 (lv' := [(0, .ref 0), (1, .int (-6))]) (st' := [.int (-6)]) (w2 := modW 0 S ((up X.rf 6 ((X.rf 6) + 1), X.wo, X.ta, X.ow, X.sl, X.sh, X.lt, X.ty, X.pl, X.nu, X.od, X.tt, X.oo, X.on, X.wn, X.pd, X.li, X.rr, X.rn, X.dr) : ModN) K) rfl ?_
  exact ev_iret dX7_refuses_12 rfl mod_le (Nat.le_refl _) (Nat.le_refl _) ⟨rfl, (by rfl)⟩
theorem bX7_isIn_0_2 {l : Launch} {E : XE} : Snd l E mX7_isIn 0 2 (xs [x_iload 0, x_iload 1]) := Snd.cons (snd_iload_n (i := 0) dX7_isIn_0 rfl) (Snd.cons (snd_iload_n (i := 1) dX7_isIn_1 rfl) Snd.nil)
theorem bX7_isIn_14_15 {l : Launch} {E : XE} : Snd l E mX7_isIn 14 15 (xs [x_push (.int (nI 0))]) := Snd.cons (snd_iconst (v := nI 0) dX7_isIn_14 (by decide)) Snd.nil
theorem bX7_isIn_5_7 {l : Launch} {E : XE} : Snd l E mX7_isIn 5 7 (xs [x_iload 0, x_iload 2]) := Snd.cons (snd_iload_n (i := 0) dX7_isIn_5 rfl) (Snd.cons (snd_iload_n (i := 2) dX7_isIn_6 rfl) Snd.nil)
theorem bX7_isIn_10_15 {l : Launch} {E : XE} : Snd l E mX7_isIn 10 15 (xs [x_push (.int (nI 1)), x_id]) := Snd.cons (snd_iconst (v := nI 1) dX7_isIn_10 (by decide)) (Snd.cons (snd_goto (tgt := 15) dX7_isIn_11 (by decide)) Snd.nil)
set_option maxHeartbeats 4000000 in
set_option maxRecDepth 100000 in
theorem m_X7_isIn_z {l : Launch} {E : XE} (v : Int) (a b : Nat) (rv : -2147483648 ≤ v ∧ v < 2147483648) (ha : a < 2147483648) (hb : b < 2147483648) : MetE l E mX7_isIn (0) 0 0 [.int (zI (v)), .int (nI (a)), .int (nI (b))] ([]) (fun r w' => r = some (.int (nI (b01 (((a : Nat) : Int) ≤ v ∧ v ≤ ((b : Nat) : Int))))) ∧ w' = []) := by
  refine MetE.of (by decide +kernel) (Nat.le_of_ble_eq_true rfl) ?_
  refine ev_eq (lv' := [(0, .int (zI (v))), (1, .int (nI (a))), (2, .int (nI (b)))]) (st' := []) (w' := []) rfl rfl rfl ?_
  refine ev_b bX7_isIn_0_2 (lv' := [(0, .int (zI (v))), (1, .int (nI (a))), (2, .int (nI (b)))]) (st' := [.int (nI (a)), .int (zI (v))]) (w2 := []) rfl ?_
  refine ev_top (y := zI (((a : Nat) : Int))) (zI_nat _).symm ?_
  refine ev_icmp_lt_z (tgt := 14) (by constructor <;> omega) (by constructor <;> omega) dX7_isIn_2 (by decide) (fun h2 => ?_) (fun h2 => ?_)
  · skip
    refine ev_b bX7_isIn_14_15 (lv' := [(0, .int (zI (v))), (1, .int (nI (a))), (2, .int (nI (b)))]) (st' := [.int (nI (0))]) (w2 := []) rfl ?_
    exact ev_zret dX7_isIn_15 rfl rfl (Nat.le_of_ble_eq_true rfl) (Nat.le_refl _) (Nat.le_refl _) ⟨(congrArg (fun t => some (Value.int (nI t))) (b01_f (by omega)).symm), rfl⟩
  · skip
    refine ev_b bX7_isIn_5_7 (lv' := [(0, .int (zI (v))), (1, .int (nI (a))), (2, .int (nI (b)))]) (st' := [.int (nI (b)), .int (zI (v))]) (w2 := []) rfl ?_
    refine ev_top (y := zI (((b : Nat) : Int))) (zI_nat _).symm ?_
    refine ev_icmp_gt_z (tgt := 14) (by constructor <;> omega) (by constructor <;> omega) dX7_isIn_7 (by decide) (fun h7 => ?_) (fun h7 => ?_)
    · skip
      refine ev_b bX7_isIn_14_15 (lv' := [(0, .int (zI (v))), (1, .int (nI (a))), (2, .int (nI (b)))]) (st' := [.int (nI (0))]) (w2 := []) rfl ?_
      exact ev_zret dX7_isIn_15 rfl rfl (Nat.le_of_ble_eq_true rfl) (Nat.le_refl _) (Nat.le_refl _) ⟨(congrArg (fun t => some (Value.int (nI t))) (b01_f (by omega)).symm), rfl⟩
    · skip
      refine ev_b bX7_isIn_10_15 (lv' := [(0, .int (zI (v))), (1, .int (nI (a))), (2, .int (nI (b)))]) (st' := [.int (nI (1))]) (w2 := []) rfl ?_
      exact ev_zret dX7_isIn_15 rfl rfl (Nat.le_of_ble_eq_true rfl) (Nat.le_refl _) (Nat.le_refl _) ⟨(congrArg (fun t => some (Value.int (nI t))) (b01_t (by omega)).symm), rfl⟩
set_option maxHeartbeats 4000000 in
set_option maxRecDepth 100000 in
theorem m_X7_isIn_n {l : Launch} {E : XE} (v a b : Nat) (hv : v < 2147483648) (ha : a < 2147483648) (hb : b < 2147483648) : MetE l E mX7_isIn (0) 0 0 [.int (nI (v)), .int (nI (a)), .int (nI (b))] ([]) (fun r w' => r = some (.int (nI (b01 (a ≤ v ∧ v ≤ b)))) ∧ w' = []) := by
  refine MetE.of (by decide +kernel) (Nat.le_of_ble_eq_true rfl) ?_
  refine ev_eq (lv' := [(0, .int (nI (v))), (1, .int (nI (a))), (2, .int (nI (b)))]) (st' := []) (w' := []) rfl rfl rfl ?_
  refine ev_b bX7_isIn_0_2 (lv' := [(0, .int (nI (v))), (1, .int (nI (a))), (2, .int (nI (b)))]) (st' := [.int (nI (a)), .int (nI (v))]) (w2 := []) rfl ?_
  refine ev_icmp_lt_n (tgt := 14) (by omega) (by omega) dX7_isIn_2 (by decide) (fun h2 => ?_) (fun h2 => ?_)
  · skip
    refine ev_b bX7_isIn_14_15 (lv' := [(0, .int (nI (v))), (1, .int (nI (a))), (2, .int (nI (b)))]) (st' := [.int (nI (0))]) (w2 := []) rfl ?_
    exact ev_zret dX7_isIn_15 rfl rfl (Nat.le_of_ble_eq_true rfl) (Nat.le_refl _) (Nat.le_refl _) ⟨(congrArg (fun t => some (Value.int (nI t))) (b01_f (by omega)).symm), rfl⟩
  · skip
    refine ev_b bX7_isIn_5_7 (lv' := [(0, .int (nI (v))), (1, .int (nI (a))), (2, .int (nI (b)))]) (st' := [.int (nI (b)), .int (nI (v))]) (w2 := []) rfl ?_
    refine ev_icmp_gt_n (tgt := 14) (by omega) (by omega) dX7_isIn_7 (by decide) (fun h7 => ?_) (fun h7 => ?_)
    · skip
      refine ev_b bX7_isIn_14_15 (lv' := [(0, .int (nI (v))), (1, .int (nI (a))), (2, .int (nI (b)))]) (st' := [.int (nI (0))]) (w2 := []) rfl ?_
      exact ev_zret dX7_isIn_15 rfl rfl (Nat.le_of_ble_eq_true rfl) (Nat.le_refl _) (Nat.le_refl _) ⟨(congrArg (fun t => some (Value.int (nI t))) (b01_f (by omega)).symm), rfl⟩
    · skip
      refine ev_b bX7_isIn_10_15 (lv' := [(0, .int (nI (v))), (1, .int (nI (a))), (2, .int (nI (b)))]) (st' := [.int (nI (1))]) (w2 := []) rfl ?_
      exact ev_zret dX7_isIn_15 rfl rfl (Nat.le_of_ble_eq_true rfl) (Nat.le_refl _) (Nat.le_refl _) ⟨(congrArg (fun t => some (Value.int (nI t))) (b01_t (by omega)).symm), rfl⟩
set_option maxHeartbeats 4000000 in
set_option maxRecDepth 100000 in
theorem m_X7_isIn_zz {l : Launch} {E : XE} (v : Int) (a : Nat) (b : Int) (rv : -2147483648 ≤ v ∧ v < 2147483648) (rb : -2147483648 ≤ b ∧ b < 2147483648) (ha : a < 2147483648) : MetE l E mX7_isIn (0) 0 0 [.int (zI (v)), .int (nI (a)), .int (zI (b))] ([]) (fun r w' => r = some (.int (nI (b01 (((a : Nat) : Int) ≤ v ∧ v ≤ b)))) ∧ w' = []) := by
  refine MetE.of (by decide +kernel) (Nat.le_of_ble_eq_true rfl) ?_
  refine ev_eq (lv' := [(0, .int (zI (v))), (1, .int (nI (a))), (2, .int (zI (b)))]) (st' := []) (w' := []) rfl rfl rfl ?_
  refine ev_b bX7_isIn_0_2 (lv' := [(0, .int (zI (v))), (1, .int (nI (a))), (2, .int (zI (b)))]) (st' := [.int (nI (a)), .int (zI (v))]) (w2 := []) rfl ?_
  refine ev_top (y := zI (((a : Nat) : Int))) (zI_nat _).symm ?_
  refine ev_icmp_lt_z (tgt := 14) (by constructor <;> omega) (by constructor <;> omega) dX7_isIn_2 (by decide) (fun h2 => ?_) (fun h2 => ?_)
  · skip
    refine ev_b bX7_isIn_14_15 (lv' := [(0, .int (zI (v))), (1, .int (nI (a))), (2, .int (zI (b)))]) (st' := [.int (nI (0))]) (w2 := []) rfl ?_
    exact ev_zret dX7_isIn_15 rfl rfl (Nat.le_of_ble_eq_true rfl) (Nat.le_refl _) (Nat.le_refl _) ⟨(congrArg (fun t => some (Value.int (nI t))) (b01_f (by omega)).symm), rfl⟩
  · skip
    refine ev_b bX7_isIn_5_7 (lv' := [(0, .int (zI (v))), (1, .int (nI (a))), (2, .int (zI (b)))]) (st' := [.int (zI (b)), .int (zI (v))]) (w2 := []) rfl ?_
    refine ev_icmp_gt_z (tgt := 14) (by constructor <;> omega) (by constructor <;> omega) dX7_isIn_7 (by decide) (fun h7 => ?_) (fun h7 => ?_)
    · skip
      refine ev_b bX7_isIn_14_15 (lv' := [(0, .int (zI (v))), (1, .int (nI (a))), (2, .int (zI (b)))]) (st' := [.int (nI (0))]) (w2 := []) rfl ?_
      exact ev_zret dX7_isIn_15 rfl rfl (Nat.le_of_ble_eq_true rfl) (Nat.le_refl _) (Nat.le_refl _) ⟨(congrArg (fun t => some (Value.int (nI t))) (b01_f (by omega)).symm), rfl⟩
    · skip
      refine ev_b bX7_isIn_10_15 (lv' := [(0, .int (zI (v))), (1, .int (nI (a))), (2, .int (zI (b)))]) (st' := [.int (nI (1))]) (w2 := []) rfl ?_
      exact ev_zret dX7_isIn_15 rfl rfl (Nat.le_of_ble_eq_true rfl) (Nat.le_refl _) (Nat.le_refl _) ⟨(congrArg (fun t => some (Value.int (nI t))) (b01_t (by omega)).symm), rfl⟩
set_option maxHeartbeats 4000000 in
set_option maxRecDepth 100000 in
theorem m_X7_isIn_nz {l : Launch} {E : XE} (v : Nat) (a : Nat) (b : Int) (rb : -2147483648 ≤ b ∧ b < 2147483648) (hv : v < 2147483648) (ha : a < 2147483648) : MetE l E mX7_isIn (0) 0 0 [.int (nI (v)), .int (nI (a)), .int (zI (b))] ([]) (fun r w' => r = some (.int (nI (b01 (((a : Nat) : Int) ≤ ((v : Nat) : Int) ∧ ((v : Nat) : Int) ≤ b)))) ∧ w' = []) := by
  refine MetE.of (by decide +kernel) (Nat.le_of_ble_eq_true rfl) ?_
  refine ev_eq (lv' := [(0, .int (nI (v))), (1, .int (nI (a))), (2, .int (zI (b)))]) (st' := []) (w' := []) rfl rfl rfl ?_
  refine ev_b bX7_isIn_0_2 (lv' := [(0, .int (nI (v))), (1, .int (nI (a))), (2, .int (zI (b)))]) (st' := [.int (nI (a)), .int (nI (v))]) (w2 := []) rfl ?_
  refine ev_icmp_lt_n (tgt := 14) (by omega) (by omega) dX7_isIn_2 (by decide) (fun h2 => ?_) (fun h2 => ?_)
  · skip
    refine ev_b bX7_isIn_14_15 (lv' := [(0, .int (nI (v))), (1, .int (nI (a))), (2, .int (zI (b)))]) (st' := [.int (nI (0))]) (w2 := []) rfl ?_
    exact ev_zret dX7_isIn_15 rfl rfl (Nat.le_of_ble_eq_true rfl) (Nat.le_refl _) (Nat.le_refl _) ⟨(congrArg (fun t => some (Value.int (nI t))) (b01_f (by omega)).symm), rfl⟩
  · skip
    refine ev_b bX7_isIn_5_7 (lv' := [(0, .int (nI (v))), (1, .int (nI (a))), (2, .int (zI (b)))]) (st' := [.int (zI (b)), .int (nI (v))]) (w2 := []) rfl ?_
    refine ev_top2 (y := zI (((v : Nat) : Int))) (zI_nat _).symm ?_
    refine ev_icmp_gt_z (tgt := 14) (by constructor <;> omega) (by constructor <;> omega) dX7_isIn_7 (by decide) (fun h7 => ?_) (fun h7 => ?_)
    · skip
      refine ev_b bX7_isIn_14_15 (lv' := [(0, .int (nI (v))), (1, .int (nI (a))), (2, .int (zI (b)))]) (st' := [.int (nI (0))]) (w2 := []) rfl ?_
      exact ev_zret dX7_isIn_15 rfl rfl (Nat.le_of_ble_eq_true rfl) (Nat.le_refl _) (Nat.le_refl _) ⟨(congrArg (fun t => some (Value.int (nI t))) (b01_f (by omega)).symm), rfl⟩
    · skip
      refine ev_b bX7_isIn_10_15 (lv' := [(0, .int (nI (v))), (1, .int (nI (a))), (2, .int (zI (b)))]) (st' := [.int (nI (1))]) (w2 := []) rfl ?_
      exact ev_zret dX7_isIn_15 rfl rfl (Nat.le_of_ble_eq_true rfl) (Nat.le_refl _) (Nat.le_refl _) ⟨(congrArg (fun t => some (Value.int (nI t))) (b01_t (by omega)).symm), rfl⟩
theorem bX7_isBid_0_7 {l : Launch} {E : XE} : Snd l E mX7_isBid 0 7 (xs [x_iload 1, x_push (.int (nI 0)), x_aload 0, x_get 8 6, x_push (.int (nI 1))]) := Snd.cons (snd_iload_n (i := 1) dX7_isBid_0 rfl) (Snd.cons (snd_iconst (v := nI 0) dX7_isBid_1 (by decide)) (Snd.cons (snd_aload_n (i := 0) dX7_isBid_2 rfl) (Snd.cons (snd_get (ci := 8) (k := 6) dX7_isBid_3 rfl inX7 (by decide) tw_920) (Snd.cons (snd_iconst (v := nI 1) dX7_isBid_6 (by decide)) Snd.nil))))
set_option maxHeartbeats 4000000 in
set_option maxRecDepth 100000 in
theorem m_X7_isBid_z {l : Launch} {E : XE} (S : SaleN) (X : ModN) (K : Option (Nat → Nat)) (z : Int) (hca : S.ca ≤ 10) (rz : -2147483648 ≤ z ∧ z < 2147483648) : MetE l E mX7_isBid (1) 0 0 [.ref 0, .int (zI (z))] (modW 0 S X K) (fun r w' => r = some (.int (nI (b01 (0 ≤ z ∧ z < S.ca)))) ∧ w' = modW 0 S X K) := by
  refine MetE.of (by decide +kernel) (Nat.le_of_ble_eq_true rfl) ?_
  refine ev_eq (lv' := [(0, .ref 0), (1, .int (zI (z)))]) (st' := []) (w' := modW 0 S X K) rfl rfl rfl ?_
  refine ev_b bX7_isBid_0_7 (lv' := [(0, .ref 0), (1, .int (zI (z)))]) (st' := [.int (nI (1)), .int (nI (S.ca)), .int (nI (0)), .int (zI (z))]) (w2 := modW 0 S X K) rfl ?_
  refine ev_top (y := zI (((1 : Nat) : Int))) (zI_nat _).symm ?_
  refine ev_top2 (y := zI (((S.ca : Nat) : Int))) (zI_nat _).symm ?_
  refine ev_isub_z dX7_isBid_7 ?_
  refine ev_callS (Yc := mX7_isIn) [] dX7_isBid_8 tw_1036 kX7_isIn (m_X7_isIn_zz z 0 (((S.ca : Nat) : Int) - ((1 : Nat) : Int)) rz (by omega) (by decide)) rfl (st := []) rfl (by decide) rfl (by decide) (Nat.le_of_ble_eq_true rfl) (Nat.le_refl _) (Nat.le_refl _) (fun r w' h => by obtain ⟨-, rfl⟩ := h; exact Nat.le_of_ble_eq_true rfl) ?_
  rintro _ _ ⟨rfl, rfl⟩
  refine ev_eq (lv' := [(0, .ref 0), (1, .int (zI (z)))]) (st' := [.int (nI (b01 (((0 : Nat) : Int) ≤ z ∧ z ≤ ((S.ca : Nat) : Int) - ((1 : Nat) : Int))))]) (w' := modW 0 S X K) rfl rfl rfl ?_
  exact ev_zret dX7_isBid_11 rfl b01_nar mod_le (Nat.le_refl _) (Nat.le_refl _) ⟨(congrArg (fun t => some (Value.int (nI t))) (b01_c (by omega))), rfl⟩
set_option maxHeartbeats 4000000 in
set_option maxRecDepth 100000 in
theorem m_X7_isBid_n {l : Launch} {E : XE} (S : SaleN) (X : ModN) (K : Option (Nat → Nat)) (k : Nat) (hca : S.ca ≤ 10) (hk : k < 2147483648) : MetE l E mX7_isBid (1) 0 0 [.ref 0, .int (nI (k))] (modW 0 S X K) (fun r w' => r = some (.int (nI (b01 (k < S.ca)))) ∧ w' = modW 0 S X K) := by
  refine MetE.of (by decide +kernel) (Nat.le_of_ble_eq_true rfl) ?_
  refine ev_eq (lv' := [(0, .ref 0), (1, .int (nI (k)))]) (st' := []) (w' := modW 0 S X K) rfl rfl rfl ?_
  refine ev_b bX7_isBid_0_7 (lv' := [(0, .ref 0), (1, .int (nI (k)))]) (st' := [.int (nI (1)), .int (nI (S.ca)), .int (nI (0)), .int (nI (k))]) (w2 := modW 0 S X K) rfl ?_
  refine ev_top (y := zI (((1 : Nat) : Int))) (zI_nat _).symm ?_
  refine ev_top2 (y := zI (((S.ca : Nat) : Int))) (zI_nat _).symm ?_
  refine ev_isub_z dX7_isBid_7 ?_
  refine ev_callS (Yc := mX7_isIn) [] dX7_isBid_8 tw_1036 kX7_isIn (m_X7_isIn_nz k 0 (((S.ca : Nat) : Int) - ((1 : Nat) : Int)) (by omega) hk (by decide)) rfl (st := []) rfl (by decide) rfl (by decide) (Nat.le_of_ble_eq_true rfl) (Nat.le_refl _) (Nat.le_refl _) (fun r w' h => by obtain ⟨-, rfl⟩ := h; exact Nat.le_of_ble_eq_true rfl) ?_
  rintro _ _ ⟨rfl, rfl⟩
  refine ev_eq (lv' := [(0, .ref 0), (1, .int (nI (k)))]) (st' := [.int (nI (b01 (((0 : Nat) : Int) ≤ ((k : Nat) : Int) ∧ ((k : Nat) : Int) ≤ ((S.ca : Nat) : Int) - ((1 : Nat) : Int))))]) (w' := modW 0 S X K) rfl rfl rfl ?_
  exact ev_zret dX7_isBid_11 rfl b01_nar mod_le (Nat.le_refl _) (Nat.le_refl _) ⟨(congrArg (fun t => some (Value.int (nI t))) (b01_c (by omega))), rfl⟩
theorem bX7_size_0_4 {l : Launch} {E : XE} : Snd l E mX7_size 0 4 (xs [x_push (.int (nI 0)), x_istore 1, x_iload 0, x_istore 2]) := Snd.cons (snd_iconst (v := nI 0) dX7_size_0 (by decide)) (Snd.cons (snd_istore_n (i := 1) dX7_size_1 rfl (by decide)) (Snd.cons (snd_iload_n (i := 0) dX7_size_2 rfl) (Snd.cons (snd_istore_n (i := 2) dX7_size_3 rfl (by decide)) Snd.nil)))
theorem bX7_size_4_5 {l : Launch} {E : XE} : Snd l E mX7_size 4 5 (xs [x_iload 2]) := Snd.cons (snd_iload_n (i := 2) dX7_size_4 rfl) Snd.nil
theorem bX7_size_20_21 {l : Launch} {E : XE} : Snd l E mX7_size 20 21 (xs [x_iload 1]) := Snd.cons (snd_iload_n (i := 1) dX7_size_20 rfl) Snd.nil
theorem bX7_size_11_14 {l : Launch} {E : XE} : Snd l E mX7_size 11 14 (xs [x_iload 2, x_iload 2, x_push (.int (nI 1))]) := Snd.cons (snd_iload_n (i := 2) dX7_size_11 rfl) (Snd.cons (snd_iload_n (i := 2) dX7_size_12 rfl) (Snd.cons (snd_iconst (v := nI 1) dX7_size_13 (by decide)) Snd.nil))
theorem bX7_size_16_4 {l : Launch} {E : XE} : Snd l E mX7_size 16 4 (xs [x_istore 2, x_id]) := Snd.cons (snd_istore_n (i := 2) dX7_size_16 rfl (by decide)) (Snd.cons (snd_goto (tgt := 4) dX7_size_17 (by decide)) Snd.nil)
set_option maxHeartbeats 4000000 in
set_option maxRecDepth 100000 in
theorem m_X7_size {l : Launch} {E : XE} (n : Nat) (hn : n < 1024) : MetE l E mX7_size (0) 0 0 [.int (nI (n))] ([]) (fun r w' => r = some (.int (nI (pop n))) ∧ w' = []) := by
  refine MetE.of (by decide +kernel) (Nat.le_of_ble_eq_true rfl) ?_
  have hpn := pop_le n
  refine ev_eq (lv' := [(0, .int (nI (n)))]) (st' := []) (w' := []) rfl rfl rfl ?_
  refine ev_b bX7_size_0_4 (lv' := [(2, .int (nI (n))), (1, .int (nI (0))), (0, .int (nI (n)))]) (st' := []) (w2 := []) rfl ?_
  have L4 : ∀ (j_ k : Nat), k + j_ = pop n → ∀ (b : Nat), (b < 1024 ∧ k + pop b = pop n) → Ev l E mX7_size (0) 0 0 ([]) (fun r w' => r = some (.int (nI (pop n))) ∧ w' = []) 0 0 4 [(1, .int (nI (k))), (2, .int (nI (b)))] [] ([]) := by
    intro j_
    induction j_ with
    | zero =>
      intro k hk4 b hinv4
      replace hk4 : k = pop n := hk4
      have hb0 := pop_zero b hinv4.1 (by omega)
      refine ev_b bX7_size_4_5 (lv' := [(1, .int (nI (k))), (2, .int (nI (b)))]) (st' := [.int (nI (b))]) (w2 := []) rfl ?_
      refine ev_if_eq_n (tgt := 20) (by omega) dX7_size_5 (by decide) (fun h5 => ?_) (fun h5 => (by exfalso; omega))
      refine ev_b bX7_size_20_21 (lv' := [(1, .int (nI (k))), (2, .int (nI (b)))]) (st' := [.int (nI (k))]) (w2 := []) rfl ?_
      exact ev_iret dX7_size_21 rfl (Nat.le_of_ble_eq_true rfl) (Nat.le_refl _) (Nat.le_refl _) ⟨(congrArg (fun t => some (Value.int (nI t))) (show k = pop n from by omega)), rfl⟩
    | succ j_ ih4 =>
      intro k hk4 b hinv4
      have hlt4 : k < pop n := by omega
      have hb0 : b ≠ 0 := fun z => by subst z; rw [pop_0] at hinv4; omega
      have hcl := pop_clr b hinv4.1 hb0
      refine ev_b bX7_size_4_5 (lv' := [(1, .int (nI (k))), (2, .int (nI (b)))]) (st' := [.int (nI (b))]) (w2 := []) rfl ?_
      refine ev_if_eq_n (tgt := 20) (by omega) dX7_size_5 (by decide) (fun h5 => (by exfalso; omega)) (fun h5 => ?_)
      refine ev_iinc_n (x := k) (v := 1) dX7_size_8 rfl (by decide) ?_
      refine ev_eq (lv' := [(1, .int (nI (k + 1))), (2, .int (nI (b)))]) rfl rfl rfl ?_
      refine ev_b bX7_size_11_14 (lv' := [(1, .int (nI (k + 1))), (2, .int (nI (b)))]) (st' := [.int (nI (1)), .int (nI (b)), .int (nI (b))]) (w2 := []) rfl ?_
      refine ev_isub_n (by omega) dX7_size_14 ?_
      refine ev_iand_n dX7_size_15 ?_
      refine ev_b bX7_size_16_4 (lv' := [(2, .int (nI (b &&& (b - 1)))), (1, .int (nI (k + 1)))]) (st' := []) (w2 := []) rfl ?_
      refine ev_pick (lv' := [(1, .int (nI (k + 1))), (2, .int (nI (b &&& (b - 1))))]) rfl ?_
      rw [show nI (k + 1) = nI ((k + 1)) from congrArg nI (by omega)]
      exact ih4 (k + 1) (by omega) _ ⟨hcl.1, by omega⟩
  refine ev_pick (lv' := [(1, .int (nI (0))), (2, .int (nI (n)))]) rfl ?_
  exact L4 (pop n) 0 (by omega) n ⟨hn, by omega⟩
theorem bX7_has_0_2 {l : Launch} {E : XE} : Snd l E mX7_has 0 2 (xs [x_iload 0, x_iload 1]) := Snd.cons (snd_iload_n (i := 0) dX7_has_0 rfl) (Snd.cons (snd_iload_n (i := 1) dX7_has_1 rfl) Snd.nil)
theorem bX7_has_3_4 {l : Launch} {E : XE} : Snd l E mX7_has 3 4 (xs [x_push (.int (nI 1))]) := Snd.cons (snd_iconst (v := nI 1) dX7_has_3 (by decide)) Snd.nil
theorem bX7_has_5_6 {l : Launch} {E : XE} : Snd l E mX7_has 5 6 (xs [x_push (.int (nI 1))]) := Snd.cons (snd_iconst (v := nI 1) dX7_has_5 (by decide)) Snd.nil
theorem bX7_has_13_14 {l : Launch} {E : XE} : Snd l E mX7_has 13 14 (xs [x_push (.int (nI 0))]) := Snd.cons (snd_iconst (v := nI 0) dX7_has_13 (by decide)) Snd.nil
theorem bX7_has_9_14 {l : Launch} {E : XE} : Snd l E mX7_has 9 14 (xs [x_push (.int (nI 1)), x_id]) := Snd.cons (snd_iconst (v := nI 1) dX7_has_9 (by decide)) (Snd.cons (snd_goto (tgt := 14) dX7_has_10 (by decide)) Snd.nil)
set_option maxHeartbeats 4000000 in
set_option maxRecDepth 100000 in
theorem m_X7_has {l : Launch} {E : XE} (x k : Nat) (hx : x < 2147483648) (hk : k < 31) : MetE l E mX7_has (0) 0 0 [.int (nI (x)), .int (nI (k))] ([]) (fun r w' => r = some (.int (nI (b01 (x.testBit k = true)))) ∧ w' = []) := by
  refine MetE.of (by decide +kernel) (Nat.le_of_ble_eq_true rfl) ?_
  refine ev_eq (lv' := [(0, .int (nI (x))), (1, .int (nI (k)))]) (st' := []) (w' := []) rfl rfl rfl ?_
  refine ev_b bX7_has_0_2 (lv' := [(0, .int (nI (x))), (1, .int (nI (k)))]) (st' := [.int (nI (k)), .int (nI (x))]) (w2 := []) rfl ?_
  refine ev_ishr_n (by omega) (by omega) dX7_has_2 ?_
  refine ev_b bX7_has_3_4 (lv' := [(0, .int (nI (x))), (1, .int (nI (k)))]) (st' := [.int (nI (1)), .int (nI (x >>> k))]) (w2 := []) rfl ?_
  refine ev_iand_n dX7_has_4 ?_
  refine ev_top (y := (nI (b01 (x.testBit k = true)))) (by exact congrArg nI (shr1 _ _)) ?_
  refine ev_b bX7_has_5_6 (lv' := [(0, .int (nI (x))), (1, .int (nI (k)))]) (st' := [.int (nI (1)), .int (nI (b01 (x.testBit k = true)))]) (w2 := []) rfl ?_
  refine ev_icmpne_b1 (tgt := 13) dX7_has_6 (by decide) (fun h6 => ?_) (fun h6 => ?_)
  · skip
    refine ev_b bX7_has_13_14 (lv' := [(0, .int (nI (x))), (1, .int (nI (k)))]) (st' := [.int (nI (0))]) (w2 := []) rfl ?_
    exact ev_zret dX7_has_14 rfl rfl (Nat.le_of_ble_eq_true rfl) (Nat.le_refl _) (Nat.le_refl _) ⟨(congrArg (fun t => some (Value.int (nI t))) (b01_f (by exact h6)).symm), rfl⟩
  · skip
    refine ev_b bX7_has_9_14 (lv' := [(0, .int (nI (x))), (1, .int (nI (k)))]) (st' := [.int (nI (1))]) (w2 := []) rfl ?_
    exact ev_zret dX7_has_14 rfl rfl (Nat.le_of_ble_eq_true rfl) (Nat.le_refl _) (Nat.le_refl _) ⟨(congrArg (fun t => some (Value.int (nI t))) (b01_t (by exact h6)).symm), rfl⟩
/-- what the walk over a bidder's own bids, from above, has seen: their prices, the least of them -/
def MWI (F : SaleN) (m k a f : Nat) : Prop := a + prTo F.pr m (F.ca - k) = prTo F.pr m F.ca ∧ f < 10 ∧ ((∃ j, F.ca - k ≤ j ∧ j < F.ca ∧ m.testBit j = true) → m.testBit f = true ∧ f < F.ca)
theorem mw_start {F : SaleN} {m : Nat} : MWI F m 0 0 0 := ⟨by rw [Nat.sub_zero, Nat.zero_add], by decide, fun ⟨j, h1, h2, _⟩ => absurd h2 (by omega)⟩
theorem mw_on {F : SaleN} {m k a f : Nat} (h : MWI F m k a f) (hk : k < F.ca) (hca : F.ca ≤ 10) (hb : m.testBit (F.ca - 1 - k) = true) : MWI F m (k + 1) (a + F.pr (F.ca - 1 - k)) (F.ca - 1 - k) := by
  refine ⟨?_, by omega, fun _ => ⟨hb, by omega⟩⟩
  have h1 := h.1
  rw [show F.ca - k = (F.ca - 1 - k) + 1 by omega, prTo_s, if_pos hb] at h1
  rw [show F.ca - (k + 1) = F.ca - 1 - k by omega]
  omega
theorem mw_off {F : SaleN} {m k a f : Nat} (h : MWI F m k a f) (hk : k < F.ca) (hb : ¬ m.testBit (F.ca - 1 - k) = true) : MWI F m (k + 1) a f := by
  refine ⟨?_, h.2.1, fun ⟨j, h1, h2, h3⟩ => h.2.2 ⟨j, ?_, h2, h3⟩⟩
  · have h1 := h.1
    rw [show F.ca - k = (F.ca - 1 - k) + 1 by omega, prTo_s, if_neg hb, Nat.add_zero] at h1
    rw [show F.ca - (k + 1) = F.ca - 1 - k by omega]
    exact h1
  · by_cases e : j = F.ca - 1 - k
    · subst e
      exact absurd h3 hb
    · omega
theorem mw_end {F : SaleN} {m a f : Nat} (h : MWI F m F.ca a f) (hm : m < 2 ^ F.ca) : a = prTo F.pr m F.ca ∧ f < 10 ∧ (pop m = 1 → m < 1024 → f < F.ca ∧ itTo F.st m F.ca = F.st f) := by
  refine ⟨?_, h.2.1, fun h1 h2 => ?_⟩
  · have h1 := h.1
    rw [Nat.sub_self] at h1
    exact h1
  · have h0 : m ≠ 0 := fun z => by subst z; rw [pop_0] at h1; omega
    obtain ⟨j, hj⟩ := Nat.exists_testBit_of_ne_zero h0
    have hjc : j < F.ca := by
      by_cases hc : j < F.ca
      · exact hc
      · rw [tb_lt hm (by omega)] at hj; cases hj
    have h3 := h.2.2 ⟨j, by omega, hjc, hj⟩
    refine ⟨h3.2, ?_⟩
    rw [pop_one f h.2.1 m h2 h1 h3.1]
    exact itTo_one h3.2
theorem bX7_mayWin_0_1 {l : Launch} {E : XE} : Snd l E mX7_mayWin 0 1 (xs [x_iload 2]) := Snd.cons (snd_iload_n (i := 2) dX7_mayWin_0 rfl) Snd.nil
theorem bX7_mayWin_4_10 {l : Launch} {E : XE} : Snd l E mX7_mayWin 4 10 (xs [x_istore 3, x_iload 1, x_aload 0, x_get 8 13]) := Snd.cons (snd_istore_n (i := 3) dX7_mayWin_4 rfl (by decide)) (Snd.cons (snd_iload_n (i := 1) dX7_mayWin_5 rfl) (Snd.cons (snd_aload_n (i := 0) dX7_mayWin_6 rfl) (Snd.cons (snd_get (ci := 8) (k := 13) dX7_mayWin_7 rfl inX7 (by decide) tw_927) Snd.nil)))
theorem bX7_mayWin_17_18 {l : Launch} {E : XE} : Snd l E mX7_mayWin 17 18 (xs [x_push (.int (nI 1))]) := Snd.cons (snd_iconst (v := nI 1) dX7_mayWin_17 (by decide)) Snd.nil
theorem bX7_mayWin_13_14 {l : Launch} {E : XE} : Snd l E mX7_mayWin 13 14 (xs [x_iload 3]) := Snd.cons (snd_iload_n (i := 3) dX7_mayWin_13 rfl) Snd.nil
theorem bX7_mayWin_19_24 {l : Launch} {E : XE} : Snd l E mX7_mayWin 19 24 (xs [x_aload 0, x_get 8 2, x_iload 1]) := Snd.cons (snd_aload_n (i := 0) dX7_mayWin_19 rfl) (Snd.cons (snd_get (ci := 8) (k := 2) dX7_mayWin_20 rfl inX7 (by decide) tw_916) (Snd.cons (snd_iload_n (i := 1) dX7_mayWin_23 rfl) Snd.nil))
theorem bX7_mayWin_25_38 {l : Launch} {E : XE} : Snd l E mX7_mayWin 25 38 (xs [x_istore 4, x_push (.int (nI 0)), x_istore 5, x_push (.int (nI 0)), x_istore 6, x_aload 0, x_get 8 6, x_push (.int (nI 1))]) := Snd.cons (snd_istore dX7_mayWin_25 (by decide)) (Snd.cons (snd_iconst (v := nI 0) dX7_mayWin_27 (by decide)) (Snd.cons (snd_istore dX7_mayWin_28 (by decide)) (Snd.cons (snd_iconst (v := nI 0) dX7_mayWin_30 (by decide)) (Snd.cons (snd_istore dX7_mayWin_31 (by decide)) (Snd.cons (snd_aload_n (i := 0) dX7_mayWin_33 rfl) (Snd.cons (snd_get (ci := 8) (k := 6) dX7_mayWin_34 rfl inX7 (by decide) tw_920) (Snd.cons (snd_iconst (v := nI 1) dX7_mayWin_37 (by decide)) Snd.nil)))))))
theorem bX7_mayWin_39_41 {l : Launch} {E : XE} : Snd l E mX7_mayWin 39 41 (xs [x_istore 7]) := Snd.cons (snd_istore dX7_mayWin_39 (by decide)) Snd.nil
theorem bX7_mayWin_41_43 {l : Launch} {E : XE} : Snd l E mX7_mayWin 41 43 (xs [x_iload 7]) := Snd.cons (snd_iload dX7_mayWin_41) Snd.nil
theorem bX7_mayWin_80_85 {l : Launch} {E : XE} : Snd l E mX7_mayWin 80 85 (xs [x_aload 0, x_get 8 1, x_iload 1]) := Snd.cons (snd_aload_n (i := 0) dX7_mayWin_80 rfl) (Snd.cons (snd_get (ci := 8) (k := 1) dX7_mayWin_81 rfl inX7 (by decide) tw_915) (Snd.cons (snd_iload_n (i := 1) dX7_mayWin_84 rfl) Snd.nil))
theorem bX7_mayWin_120_121 {l : Launch} {E : XE} : Snd l E mX7_mayWin 120 121 (xs [x_push (.int (nI 1))]) := Snd.cons (snd_iconst (v := nI 1) dX7_mayWin_120 (by decide)) Snd.nil
theorem bX7_mayWin_122_124 {l : Launch} {E : XE} : Snd l E mX7_mayWin 122 124 (xs [x_iload 3, x_push (.int (nI 1))]) := Snd.cons (snd_iload_n (i := 3) dX7_mayWin_122 rfl) (Snd.cons (snd_iconst (v := nI 1) dX7_mayWin_123 (by decide)) Snd.nil)
theorem bX7_mayWin_131_132 {l : Launch} {E : XE} : Snd l E mX7_mayWin 131 132 (xs [x_push (.int (nI 0))]) := Snd.cons (snd_iconst (v := nI 0) dX7_mayWin_131 (by decide)) Snd.nil
theorem bX7_mayWin_127_132 {l : Launch} {E : XE} : Snd l E mX7_mayWin 127 132 (xs [x_push (.int (nI 1)), x_id]) := Snd.cons (snd_iconst (v := nI 1) dX7_mayWin_127 (by decide)) (Snd.cons (snd_goto (tgt := 132) dX7_mayWin_128 (by decide)) Snd.nil)
theorem bX7_mayWin_133_136 {l : Launch} {E : XE} : Snd l E mX7_mayWin 133 136 (xs [x_iload 3, x_iload 4]) := Snd.cons (snd_iload_n (i := 3) dX7_mayWin_133 rfl) (Snd.cons (snd_iload dX7_mayWin_134) Snd.nil)
theorem bX7_mayWin_143_144 {l : Launch} {E : XE} : Snd l E mX7_mayWin 143 144 (xs [x_push (.int (nI 0))]) := Snd.cons (snd_iconst (v := nI 0) dX7_mayWin_143 (by decide)) Snd.nil
theorem bX7_mayWin_139_144 {l : Launch} {E : XE} : Snd l E mX7_mayWin 139 144 (xs [x_push (.int (nI 1)), x_id]) := Snd.cons (snd_iconst (v := nI 1) dX7_mayWin_139 (by decide)) (Snd.cons (snd_goto (tgt := 144) dX7_mayWin_140 (by decide)) Snd.nil)
theorem bX7_mayWin_145_151 {l : Launch} {E : XE} : Snd l E mX7_mayWin 145 151 (xs [x_iload 5, x_push (.int (nI 10)), x_iload 4]) := Snd.cons (snd_iload dX7_mayWin_145) (Snd.cons (snd_bipush (v := nI 10) dX7_mayWin_147 (by decide)) (Snd.cons (snd_iload dX7_mayWin_149) Snd.nil))
theorem bX7_mayWin_159_160 {l : Launch} {E : XE} : Snd l E mX7_mayWin 159 160 (xs [x_push (.int (nI 0))]) := Snd.cons (snd_iconst (v := nI 0) dX7_mayWin_159 (by decide)) Snd.nil
theorem bX7_mayWin_155_160 {l : Launch} {E : XE} : Snd l E mX7_mayWin 155 160 (xs [x_push (.int (nI 1)), x_id]) := Snd.cons (snd_iconst (v := nI 1) dX7_mayWin_155 (by decide)) (Snd.cons (snd_goto (tgt := 160) dX7_mayWin_156 (by decide)) Snd.nil)
theorem bX7_mayWin_161_163 {l : Launch} {E : XE} : Snd l E mX7_mayWin 161 163 (xs [x_iload 3, x_push (.int (nI 1))]) := Snd.cons (snd_iload_n (i := 3) dX7_mayWin_161 rfl) (Snd.cons (snd_iconst (v := nI 1) dX7_mayWin_162 (by decide)) Snd.nil)
theorem bX7_mayWin_185_186 {l : Launch} {E : XE} : Snd l E mX7_mayWin 185 186 (xs [x_push (.int (nI 0))]) := Snd.cons (snd_iconst (v := nI 0) dX7_mayWin_185 (by decide)) Snd.nil
theorem bX7_mayWin_166_172 {l : Launch} {E : XE} : Snd l E mX7_mayWin 166 172 (xs [x_aload 0, x_get 8 4, x_iload 6]) := Snd.cons (snd_aload_n (i := 0) dX7_mayWin_166 rfl) (Snd.cons (snd_get (ci := 8) (k := 4) dX7_mayWin_167 rfl inX7 (by decide) tw_918) (Snd.cons (snd_iload dX7_mayWin_170) Snd.nil))
theorem bX7_mayWin_176_178 {l : Launch} {E : XE} : Snd l E mX7_mayWin 176 178 (xs [x_iload 4]) := Snd.cons (snd_iload dX7_mayWin_176) Snd.nil
theorem bX7_mayWin_181_186 {l : Launch} {E : XE} : Snd l E mX7_mayWin 181 186 (xs [x_push (.int (nI 1)), x_id]) := Snd.cons (snd_iconst (v := nI 1) dX7_mayWin_181 (by decide)) (Snd.cons (snd_goto (tgt := 186) dX7_mayWin_182 (by decide)) Snd.nil)
theorem bX7_mayWin_187_190 {l : Launch} {E : XE} : Snd l E mX7_mayWin 187 190 (xs [x_iload 3, x_iload 4]) := Snd.cons (snd_iload_n (i := 3) dX7_mayWin_187 rfl) (Snd.cons (snd_iload dX7_mayWin_188) Snd.nil)
theorem bX7_mayWin_202_203 {l : Launch} {E : XE} : Snd l E mX7_mayWin 202 203 (xs [x_push (.int (nI 0))]) := Snd.cons (snd_iconst (v := nI 0) dX7_mayWin_202 (by decide)) Snd.nil
theorem bX7_mayWin_193_195 {l : Launch} {E : XE} : Snd l E mX7_mayWin 193 195 (xs [x_iload 3, x_push (.int (nI 1))]) := Snd.cons (snd_iload_n (i := 3) dX7_mayWin_193 rfl) (Snd.cons (snd_iconst (v := nI 1) dX7_mayWin_194 (by decide)) Snd.nil)
theorem bX7_mayWin_198_203 {l : Launch} {E : XE} : Snd l E mX7_mayWin 198 203 (xs [x_push (.int (nI 1)), x_id]) := Snd.cons (snd_iconst (v := nI 1) dX7_mayWin_198 (by decide)) (Snd.cons (snd_goto (tgt := 203) dX7_mayWin_199 (by decide)) Snd.nil)
theorem bX7_mayWin_46_49 {l : Launch} {E : XE} : Snd l E mX7_mayWin 46 49 (xs [x_iload 2, x_iload 7]) := Snd.cons (snd_iload_n (i := 2) dX7_mayWin_46 rfl) (Snd.cons (snd_iload dX7_mayWin_47) Snd.nil)
theorem bX7_mayWin_58_66 {l : Launch} {E : XE} : Snd l E mX7_mayWin 58 66 (xs [x_iload 5, x_aload 0, x_get 8 5, x_iload 7]) := Snd.cons (snd_iload dX7_mayWin_58) (Snd.cons (snd_aload_n (i := 0) dX7_mayWin_60 rfl) (Snd.cons (snd_get (ci := 8) (k := 5) dX7_mayWin_61 rfl inX7 (by decide) tw_919) (Snd.cons (snd_iload dX7_mayWin_64) Snd.nil)))
theorem bX7_mayWin_68_74 {l : Launch} {E : XE} : Snd l E mX7_mayWin 68 74 (xs [x_istore 5, x_iload 7, x_istore 6]) := Snd.cons (snd_istore dX7_mayWin_68 (by decide)) (Snd.cons (snd_iload dX7_mayWin_70) (Snd.cons (snd_istore dX7_mayWin_72 (by decide)) Snd.nil))
theorem bX7_mayWin_77_41 {l : Launch} {E : XE} : Snd l E mX7_mayWin 77 41 (xs [x_id]) := Snd.cons (snd_goto (tgt := 41) dX7_mayWin_77 (by decide)) Snd.nil
theorem bX7_mayWin_55_74 {l : Launch} {E : XE} : Snd l E mX7_mayWin 55 74 (xs [x_id]) := Snd.cons (snd_goto (tgt := 74) dX7_mayWin_55 (by decide)) Snd.nil
set_option maxHeartbeats 4000000 in
set_option maxRecDepth 100000 in
theorem m_X7_mayWin {l : Launch} {E : XE} (F : SaleN) (kd fg : Nat → Nat) (X : ModN) (K : Option (Nat → Nat)) (b m : Nat) (hF : SaleOK F) (hb : b < 5) (hm : m < 1024) (hm2 : m < 2 ^ F.ca) (hsh : -9 ≤ X.sh ∧ X.sh ≤ 4) (hkf : if ((b : Nat) : Int) = X.sh then F.kd b = 0 else (F.kd b = kd b ∧ F.fg b = fg b)) : MetE l E mX7_mayWin (1) 0 0 [.ref 0, .int (nI (b)), .int (nI (m))] (modW 0 ((F.bd, F.st, F.pr, F.ow, kd, fg, F.rs, F.ca, F.ac) : SaleN) X K) (fun r w' => r = some (.int (nI (b01 (mayP (F.kd b) (F.fg b) (pop m) (prTo F.pr m F.ca) (pop (itTo F.st m F.ca)))))) ∧ w' = modW 0 ((F.bd, F.st, F.pr, F.ow, kd, fg, F.rs, F.ca, F.ac) : SaleN) X K) := by
  refine MetE.of (by decide +kernel) (Nat.le_of_ble_eq_true rfl) ?_
  have hca := hF.1
  have hpm := pop_le m
  have hkb := (hF.2.2.2.1 b hb).2
  refine ev_eq (lv' := [(0, .ref 0), (1, .int (nI (b))), (2, .int (nI (m)))]) (st' := []) (w' := modW 0 ((F.bd, F.st, F.pr, F.ow, kd, fg, F.rs, F.ca, F.ac) : SaleN) X K) rfl rfl rfl ?_
  refine ev_b bX7_mayWin_0_1 (lv' := [(0, .ref 0), (1, .int (nI (b))), (2, .int (nI (m)))]) (st' := [.int (nI (m))]) (w2 := modW 0 ((F.bd, F.st, F.pr, F.ow, kd, fg, F.rs, F.ca, F.ac) : SaleN) X K) rfl ?_
  refine ev_callS (Yc := mX7_size) [] dX7_mayWin_1 tw_1132 kX7_size (m_X7_size m hm) rfl (st := []) rfl (by decide) rfl (by decide) (Nat.le_of_ble_eq_true rfl) (Nat.le_refl _) (Nat.le_refl _) (fun r w' h => by obtain ⟨-, rfl⟩ := h; exact Nat.le_of_ble_eq_true rfl) ?_
  rintro _ _ ⟨rfl, rfl⟩
  refine ev_eq (lv' := [(0, .ref 0), (1, .int (nI (b))), (2, .int (nI (m)))]) (st' := [.int (nI (pop m))]) (w' := modW 0 ((F.bd, F.st, F.pr, F.ow, kd, fg, F.rs, F.ca, F.ac) : SaleN) X K) rfl rfl rfl ?_
  refine ev_b bX7_mayWin_4_10 (lv' := [(3, .int (nI (pop m))), (0, .ref 0), (1, .int (nI (b))), (2, .int (nI (m)))]) (st' := [.int (zI (X.sh)), .int (nI (b))]) (w2 := modW 0 ((F.bd, F.st, F.pr, F.ow, kd, fg, F.rs, F.ca, F.ac) : SaleN) X K) rfl ?_
  refine ev_top2 (y := zI (((b : Nat) : Int))) (zI_nat _).symm ?_
  refine ev_icmp_eq_z (tgt := 17) (by constructor <;> omega) (by constructor <;> omega) dX7_mayWin_10 (by decide) (fun h10 => ?_) (fun h10 => ?_)
  · skip
    rw [if_pos h10] at hkf
    refine ev_b bX7_mayWin_17_18 (lv' := [(3, .int (nI (pop m))), (0, .ref 0), (1, .int (nI (b))), (2, .int (nI (m)))]) (st' := [.int (nI (1))]) (w2 := modW 0 ((F.bd, F.st, F.pr, F.ow, kd, fg, F.rs, F.ca, F.ac) : SaleN) X K) rfl ?_
    exact ev_zret dX7_mayWin_18 rfl rfl mod_le (Nat.le_refl _) (Nat.le_refl _) ⟨(congrArg (fun t => some (Value.int (nI t))) (b01_t (by first | exact may_zero hm h14 | (unfold mayP; omega))).symm), rfl⟩
  · skip
    rw [if_neg h10] at hkf
    refine ev_b bX7_mayWin_13_14 (lv' := [(3, .int (nI (pop m))), (0, .ref 0), (1, .int (nI (b))), (2, .int (nI (m)))]) (st' := [.int (nI (pop m))]) (w2 := modW 0 ((F.bd, F.st, F.pr, F.ow, kd, fg, F.rs, F.ca, F.ac) : SaleN) X K) rfl ?_
    refine ev_if_ne_n (tgt := 19) (by omega) dX7_mayWin_14 (by decide) (fun h14 => ?_) (fun h14 => ?_)
    · skip
      refine ev_b bX7_mayWin_19_24 (lv' := [(3, .int (nI (pop m))), (0, .ref 0), (1, .int (nI (b))), (2, .int (nI (m)))]) (st' := [.int (nI (b)), .ref 3]) (w2 := modW 0 ((F.bd, F.st, F.pr, F.ow, kd, fg, F.rs, F.ca, F.ac) : SaleN) X K) rfl ?_
      refine ev_iald_n (f := fg) dX7_mayWin_24 rfl (by omega) (by decide) ?_
      refine ev_b bX7_mayWin_25_38 (lv' := [(6, .int (nI (0))), (5, .int (nI (0))), (4, .int (nI (fg b))), (3, .int (nI (pop m))), (0, .ref 0), (1, .int (nI (b))), (2, .int (nI (m)))]) (st' := [.int (nI (1)), .int (nI (F.ca))]) (w2 := modW 0 ((F.bd, F.st, F.pr, F.ow, kd, fg, F.rs, F.ca, F.ac) : SaleN) X K) rfl ?_
      refine ev_top (y := zI (((1 : Nat) : Int))) (zI_nat _).symm ?_
      refine ev_top2 (y := zI (((F.ca : Nat) : Int))) (zI_nat _).symm ?_
      refine ev_isub_z dX7_mayWin_38 ?_
      refine ev_b bX7_mayWin_39_41 (lv' := [(7, .int (zI ((((F.ca : Nat) : Int)) - (((1 : Nat) : Int))))), (6, .int (nI (0))), (5, .int (nI (0))), (4, .int (nI (fg b))), (3, .int (nI (pop m))), (0, .ref 0), (1, .int (nI (b))), (2, .int (nI (m)))]) (st' := []) (w2 := modW 0 ((F.bd, F.st, F.pr, F.ow, kd, fg, F.rs, F.ca, F.ac) : SaleN) X K) rfl ?_
      have L41 : ∀ (j_ k : Nat), k + j_ = F.ca → ∀ (a f : Nat), (MWI F m k a f) → Ev l E mX7_mayWin (1) 0 0 (modW 0 ((F.bd, F.st, F.pr, F.ow, kd, fg, F.rs, F.ca, F.ac) : SaleN) X K) (fun r w' => r = some (.int (nI (b01 (mayP (F.kd b) (F.fg b) (pop m) (prTo F.pr m F.ca) (pop (itTo F.st m F.ca)))))) ∧ w' = modW 0 ((F.bd, F.st, F.pr, F.ow, kd, fg, F.rs, F.ca, F.ac) : SaleN) X K) 0 0 41 [(7, .int (zI (((F.ca : Nat) : Int) - 1 - ((k : Nat) : Int)))), (5, .int (nI (a))), (6, .int (nI (f))), (0, .ref 0), (1, .int (nI (b))), (2, .int (nI (m))), (3, .int (nI (pop m))), (4, .int (nI (fg b)))] [] (modW 0 ((F.bd, F.st, F.pr, F.ow, kd, fg, F.rs, F.ca, F.ac) : SaleN) X K) := by
        intro j_
        induction j_ with
        | zero =>
          intro k hk41 a f hinv41
          replace hk41 : k = F.ca := hk41
          subst hk41
          refine ev_b bX7_mayWin_41_43 (lv' := [(7, .int (zI (((F.ca : Nat) : Int) - 1 - ((F.ca : Nat) : Int)))), (5, .int (nI (a))), (6, .int (nI (f))), (0, .ref 0), (1, .int (nI (b))), (2, .int (nI (m))), (3, .int (nI (pop m))), (4, .int (nI (fg b)))]) (st' := [.int (zI (((F.ca : Nat) : Int) - 1 - ((F.ca : Nat) : Int)))]) (w2 := modW 0 ((F.bd, F.st, F.pr, F.ow, kd, fg, F.rs, F.ca, F.ac) : SaleN) X K) rfl ?_
          refine ev_if_lt_z (tgt := 80) (by constructor <;> omega) dX7_mayWin_43 (by decide) (fun h43 => ?_) (fun h43 => (by exfalso; omega))
          obtain ⟨ea, hf10, hff⟩ := mw_end hinv41 hm2
          have hprl := pr_le hF m
          refine ev_b bX7_mayWin_80_85 (lv' := [(7, .int (zI (((F.ca : Nat) : Int) - 1 - ((F.ca : Nat) : Int)))), (5, .int (nI (a))), (6, .int (nI (f))), (0, .ref 0), (1, .int (nI (b))), (2, .int (nI (m))), (3, .int (nI (pop m))), (4, .int (nI (fg b)))]) (st' := [.int (nI (b)), .ref 2]) (w2 := modW 0 ((F.bd, F.st, F.pr, F.ow, kd, fg, F.rs, F.ca, F.ac) : SaleN) X K) rfl ?_
          refine ev_iald_n (f := kd) dX7_mayWin_85 rfl (by omega) (by decide) ?_
          rcases (show kd b = 0 ∨ kd b = 1 ∨ kd b = 2 ∨ kd b = 3 ∨ kd b = 4 ∨ (kd b < 0 ∨ 4 < kd b) from by omega) with h86 | h86 | h86 | h86 | h86 | h86
          · skip
            refine ev_tableIn (off := 34) (tgt := 120) dX7_mayWin_86 (by rw [nI_toInt (by omega)]; omega) (by rw [nI_toInt (by omega)]; omega) (by rw [h86]; rfl) (by decide) ?_
            refine ev_b bX7_mayWin_120_121 (lv' := [(7, .int (zI (((F.ca : Nat) : Int) - 1 - ((F.ca : Nat) : Int)))), (5, .int (nI (a))), (6, .int (nI (f))), (0, .ref 0), (1, .int (nI (b))), (2, .int (nI (m))), (3, .int (nI (pop m))), (4, .int (nI (fg b)))]) (st' := [.int (nI (1))]) (w2 := modW 0 ((F.bd, F.st, F.pr, F.ow, kd, fg, F.rs, F.ca, F.ac) : SaleN) X K) rfl ?_
            exact ev_zret dX7_mayWin_121 rfl rfl mod_le (Nat.le_refl _) (Nat.le_refl _) ⟨(congrArg (fun t => some (Value.int (nI t))) (b01_t (by unfold mayP; omega)).symm), rfl⟩
          · skip
            refine ev_tableIn (off := 36) (tgt := 122) dX7_mayWin_86 (by rw [nI_toInt (by omega)]; omega) (by rw [nI_toInt (by omega)]; omega) (by rw [h86]; rfl) (by decide) ?_
            refine ev_b bX7_mayWin_122_124 (lv' := [(7, .int (zI (((F.ca : Nat) : Int) - 1 - ((F.ca : Nat) : Int)))), (5, .int (nI (a))), (6, .int (nI (f))), (0, .ref 0), (1, .int (nI (b))), (2, .int (nI (m))), (3, .int (nI (pop m))), (4, .int (nI (fg b)))]) (st' := [.int (nI (1)), .int (nI (pop m))]) (w2 := modW 0 ((F.bd, F.st, F.pr, F.ow, kd, fg, F.rs, F.ca, F.ac) : SaleN) X K) rfl ?_
            refine ev_icmp_ne_n (tgt := 131) (by omega) (by decide) dX7_mayWin_124 (by decide) (fun h124 => ?_) (fun h124 => ?_)
            · skip
              refine ev_b bX7_mayWin_131_132 (lv' := [(7, .int (zI (((F.ca : Nat) : Int) - 1 - ((F.ca : Nat) : Int)))), (5, .int (nI (a))), (6, .int (nI (f))), (0, .ref 0), (1, .int (nI (b))), (2, .int (nI (m))), (3, .int (nI (pop m))), (4, .int (nI (fg b)))]) (st' := [.int (nI (0))]) (w2 := modW 0 ((F.bd, F.st, F.pr, F.ow, kd, fg, F.rs, F.ca, F.ac) : SaleN) X K) rfl ?_
              exact ev_zret dX7_mayWin_132 rfl rfl mod_le (Nat.le_refl _) (Nat.le_refl _) ⟨(congrArg (fun t => some (Value.int (nI t))) (b01_f (by unfold mayP; omega)).symm), rfl⟩
            · skip
              refine ev_b bX7_mayWin_127_132 (lv' := [(7, .int (zI (((F.ca : Nat) : Int) - 1 - ((F.ca : Nat) : Int)))), (5, .int (nI (a))), (6, .int (nI (f))), (0, .ref 0), (1, .int (nI (b))), (2, .int (nI (m))), (3, .int (nI (pop m))), (4, .int (nI (fg b)))]) (st' := [.int (nI (1))]) (w2 := modW 0 ((F.bd, F.st, F.pr, F.ow, kd, fg, F.rs, F.ca, F.ac) : SaleN) X K) rfl ?_
              exact ev_zret dX7_mayWin_132 rfl rfl mod_le (Nat.le_refl _) (Nat.le_refl _) ⟨(congrArg (fun t => some (Value.int (nI t))) (b01_t (by unfold mayP; omega)).symm), rfl⟩
          · skip
            refine ev_tableIn (off := 47) (tgt := 133) dX7_mayWin_86 (by rw [nI_toInt (by omega)]; omega) (by rw [nI_toInt (by omega)]; omega) (by rw [h86]; rfl) (by decide) ?_
            refine ev_b bX7_mayWin_133_136 (lv' := [(7, .int (zI (((F.ca : Nat) : Int) - 1 - ((F.ca : Nat) : Int)))), (5, .int (nI (a))), (6, .int (nI (f))), (0, .ref 0), (1, .int (nI (b))), (2, .int (nI (m))), (3, .int (nI (pop m))), (4, .int (nI (fg b)))]) (st' := [.int (nI (fg b)), .int (nI (pop m))]) (w2 := modW 0 ((F.bd, F.st, F.pr, F.ow, kd, fg, F.rs, F.ca, F.ac) : SaleN) X K) rfl ?_
            refine ev_icmp_gt_n (tgt := 143) (by omega) (by omega) dX7_mayWin_136 (by decide) (fun h136 => ?_) (fun h136 => ?_)
            · skip
              refine ev_b bX7_mayWin_143_144 (lv' := [(7, .int (zI (((F.ca : Nat) : Int) - 1 - ((F.ca : Nat) : Int)))), (5, .int (nI (a))), (6, .int (nI (f))), (0, .ref 0), (1, .int (nI (b))), (2, .int (nI (m))), (3, .int (nI (pop m))), (4, .int (nI (fg b)))]) (st' := [.int (nI (0))]) (w2 := modW 0 ((F.bd, F.st, F.pr, F.ow, kd, fg, F.rs, F.ca, F.ac) : SaleN) X K) rfl ?_
              exact ev_zret dX7_mayWin_144 rfl rfl mod_le (Nat.le_refl _) (Nat.le_refl _) ⟨(congrArg (fun t => some (Value.int (nI t))) (b01_f (by unfold mayP; omega)).symm), rfl⟩
            · skip
              refine ev_b bX7_mayWin_139_144 (lv' := [(7, .int (zI (((F.ca : Nat) : Int) - 1 - ((F.ca : Nat) : Int)))), (5, .int (nI (a))), (6, .int (nI (f))), (0, .ref 0), (1, .int (nI (b))), (2, .int (nI (m))), (3, .int (nI (pop m))), (4, .int (nI (fg b)))]) (st' := [.int (nI (1))]) (w2 := modW 0 ((F.bd, F.st, F.pr, F.ow, kd, fg, F.rs, F.ca, F.ac) : SaleN) X K) rfl ?_
              exact ev_zret dX7_mayWin_144 rfl rfl mod_le (Nat.le_refl _) (Nat.le_refl _) ⟨(congrArg (fun t => some (Value.int (nI t))) (b01_t (by unfold mayP; omega)).symm), rfl⟩
          · skip
            refine ev_tableIn (off := 59) (tgt := 145) dX7_mayWin_86 (by rw [nI_toInt (by omega)]; omega) (by rw [nI_toInt (by omega)]; omega) (by rw [h86]; rfl) (by decide) ?_
            refine ev_b bX7_mayWin_145_151 (lv' := [(7, .int (zI (((F.ca : Nat) : Int) - 1 - ((F.ca : Nat) : Int)))), (5, .int (nI (a))), (6, .int (nI (f))), (0, .ref 0), (1, .int (nI (b))), (2, .int (nI (m))), (3, .int (nI (pop m))), (4, .int (nI (fg b)))]) (st' := [.int (nI (fg b)), .int (nI (10)), .int (nI (a))]) (w2 := modW 0 ((F.bd, F.st, F.pr, F.ow, kd, fg, F.rs, F.ca, F.ac) : SaleN) X K) rfl ?_
            refine ev_imul_n dX7_mayWin_151 ?_
            refine ev_icmp_gt_n (tgt := 159) (by omega) (by omega) dX7_mayWin_152 (by decide) (fun h152 => ?_) (fun h152 => ?_)
            · skip
              refine ev_b bX7_mayWin_159_160 (lv' := [(7, .int (zI (((F.ca : Nat) : Int) - 1 - ((F.ca : Nat) : Int)))), (5, .int (nI (a))), (6, .int (nI (f))), (0, .ref 0), (1, .int (nI (b))), (2, .int (nI (m))), (3, .int (nI (pop m))), (4, .int (nI (fg b)))]) (st' := [.int (nI (0))]) (w2 := modW 0 ((F.bd, F.st, F.pr, F.ow, kd, fg, F.rs, F.ca, F.ac) : SaleN) X K) rfl ?_
              exact ev_zret dX7_mayWin_160 rfl rfl mod_le (Nat.le_refl _) (Nat.le_refl _) ⟨(congrArg (fun t => some (Value.int (nI t))) (b01_f (by unfold mayP; omega)).symm), rfl⟩
            · skip
              refine ev_b bX7_mayWin_155_160 (lv' := [(7, .int (zI (((F.ca : Nat) : Int) - 1 - ((F.ca : Nat) : Int)))), (5, .int (nI (a))), (6, .int (nI (f))), (0, .ref 0), (1, .int (nI (b))), (2, .int (nI (m))), (3, .int (nI (pop m))), (4, .int (nI (fg b)))]) (st' := [.int (nI (1))]) (w2 := modW 0 ((F.bd, F.st, F.pr, F.ow, kd, fg, F.rs, F.ca, F.ac) : SaleN) X K) rfl ?_
              exact ev_zret dX7_mayWin_160 rfl rfl mod_le (Nat.le_refl _) (Nat.le_refl _) ⟨(congrArg (fun t => some (Value.int (nI t))) (b01_t (by unfold mayP; omega)).symm), rfl⟩
          · skip
            refine ev_tableIn (off := 75) (tgt := 161) dX7_mayWin_86 (by rw [nI_toInt (by omega)]; omega) (by rw [nI_toInt (by omega)]; omega) (by rw [h86]; rfl) (by decide) ?_
            refine ev_b bX7_mayWin_161_163 (lv' := [(7, .int (zI (((F.ca : Nat) : Int) - 1 - ((F.ca : Nat) : Int)))), (5, .int (nI (a))), (6, .int (nI (f))), (0, .ref 0), (1, .int (nI (b))), (2, .int (nI (m))), (3, .int (nI (pop m))), (4, .int (nI (fg b)))]) (st' := [.int (nI (1)), .int (nI (pop m))]) (w2 := modW 0 ((F.bd, F.st, F.pr, F.ow, kd, fg, F.rs, F.ca, F.ac) : SaleN) X K) rfl ?_
            refine ev_icmp_ne_n (tgt := 185) (by omega) (by decide) dX7_mayWin_163 (by decide) (fun h163 => ?_) (fun h163 => ?_)
            · skip
              refine ev_b bX7_mayWin_185_186 (lv' := [(7, .int (zI (((F.ca : Nat) : Int) - 1 - ((F.ca : Nat) : Int)))), (5, .int (nI (a))), (6, .int (nI (f))), (0, .ref 0), (1, .int (nI (b))), (2, .int (nI (m))), (3, .int (nI (pop m))), (4, .int (nI (fg b)))]) (st' := [.int (nI (0))]) (w2 := modW 0 ((F.bd, F.st, F.pr, F.ow, kd, fg, F.rs, F.ca, F.ac) : SaleN) X K) rfl ?_
              exact ev_zret dX7_mayWin_186 rfl rfl mod_le (Nat.le_refl _) (Nat.le_refl _) ⟨(congrArg (fun t => some (Value.int (nI t))) (b01_f (by unfold mayP; omega)).symm), rfl⟩
            · skip
              obtain ⟨hfc, eit⟩ := hff h163 hm
              have hstf := (hF.2.2.1 f hfc).2.2.1
              have epi : pop (itTo F.st m F.ca) = pop (F.st f) := congrArg pop eit
              have hpf := pop_le (F.st f)
              refine ev_b bX7_mayWin_166_172 (lv' := [(7, .int (zI (((F.ca : Nat) : Int) - 1 - ((F.ca : Nat) : Int)))), (5, .int (nI (a))), (6, .int (nI (f))), (0, .ref 0), (1, .int (nI (b))), (2, .int (nI (m))), (3, .int (nI (pop m))), (4, .int (nI (fg b)))]) (st' := [.int (nI (f)), .ref 5]) (w2 := modW 0 ((F.bd, F.st, F.pr, F.ow, kd, fg, F.rs, F.ca, F.ac) : SaleN) X K) rfl ?_
              refine ev_iald_n (f := F.st) dX7_mayWin_172 rfl (by omega) (by decide) ?_
              refine ev_callS (Yc := mX7_size) [] dX7_mayWin_173 tw_1132 kX7_size (m_X7_size (F.st f) (by omega)) rfl (st := []) rfl (by decide) rfl (by decide) (Nat.le_of_ble_eq_true rfl) (Nat.le_refl _) (Nat.le_refl _) (fun r w' h => by obtain ⟨-, rfl⟩ := h; exact Nat.le_of_ble_eq_true rfl) ?_
              rintro _ _ ⟨rfl, rfl⟩
              refine ev_eq (lv' := [(7, .int (zI (((F.ca : Nat) : Int) - 1 - ((F.ca : Nat) : Int)))), (5, .int (nI (a))), (6, .int (nI (f))), (0, .ref 0), (1, .int (nI (b))), (2, .int (nI (m))), (3, .int (nI (pop m))), (4, .int (nI (fg b)))]) (st' := [.int (nI (pop (F.st f)))]) (w' := modW 0 ((F.bd, F.st, F.pr, F.ow, kd, fg, F.rs, F.ca, F.ac) : SaleN) X K) rfl rfl rfl ?_
              refine ev_b bX7_mayWin_176_178 (lv' := [(7, .int (zI (((F.ca : Nat) : Int) - 1 - ((F.ca : Nat) : Int)))), (5, .int (nI (a))), (6, .int (nI (f))), (0, .ref 0), (1, .int (nI (b))), (2, .int (nI (m))), (3, .int (nI (pop m))), (4, .int (nI (fg b)))]) (st' := [.int (nI (fg b)), .int (nI (pop (F.st f)))]) (w2 := modW 0 ((F.bd, F.st, F.pr, F.ow, kd, fg, F.rs, F.ca, F.ac) : SaleN) X K) rfl ?_
              refine ev_icmp_gt_n (tgt := 185) (by omega) (by omega) dX7_mayWin_178 (by decide) (fun h178 => ?_) (fun h178 => ?_)
              · skip
                refine ev_b bX7_mayWin_185_186 (lv' := [(7, .int (zI (((F.ca : Nat) : Int) - 1 - ((F.ca : Nat) : Int)))), (5, .int (nI (a))), (6, .int (nI (f))), (0, .ref 0), (1, .int (nI (b))), (2, .int (nI (m))), (3, .int (nI (pop m))), (4, .int (nI (fg b)))]) (st' := [.int (nI (0))]) (w2 := modW 0 ((F.bd, F.st, F.pr, F.ow, kd, fg, F.rs, F.ca, F.ac) : SaleN) X K) rfl ?_
                exact ev_zret dX7_mayWin_186 rfl rfl mod_le (Nat.le_refl _) (Nat.le_refl _) ⟨(congrArg (fun t => some (Value.int (nI t))) (b01_f (by unfold mayP; omega)).symm), rfl⟩
              · skip
                refine ev_b bX7_mayWin_181_186 (lv' := [(7, .int (zI (((F.ca : Nat) : Int) - 1 - ((F.ca : Nat) : Int)))), (5, .int (nI (a))), (6, .int (nI (f))), (0, .ref 0), (1, .int (nI (b))), (2, .int (nI (m))), (3, .int (nI (pop m))), (4, .int (nI (fg b)))]) (st' := [.int (nI (1))]) (w2 := modW 0 ((F.bd, F.st, F.pr, F.ow, kd, fg, F.rs, F.ca, F.ac) : SaleN) X K) rfl ?_
                exact ev_zret dX7_mayWin_186 rfl rfl mod_le (Nat.le_refl _) (Nat.le_refl _) ⟨(congrArg (fun t => some (Value.int (nI t))) (b01_t (by unfold mayP; omega)).symm), rfl⟩
          · skip
            refine ev_tableOut (tgt := 187) dX7_mayWin_86 (by rw [nI_toInt (by omega)]; omega) (by decide) ?_
            refine ev_b bX7_mayWin_187_190 (lv' := [(7, .int (zI (((F.ca : Nat) : Int) - 1 - ((F.ca : Nat) : Int)))), (5, .int (nI (a))), (6, .int (nI (f))), (0, .ref 0), (1, .int (nI (b))), (2, .int (nI (m))), (3, .int (nI (pop m))), (4, .int (nI (fg b)))]) (st' := [.int (nI (fg b)), .int (nI (pop m))]) (w2 := modW 0 ((F.bd, F.st, F.pr, F.ow, kd, fg, F.rs, F.ca, F.ac) : SaleN) X K) rfl ?_
            refine ev_icmp_gt_n (tgt := 202) (by omega) (by omega) dX7_mayWin_190 (by decide) (fun h190 => ?_) (fun h190 => ?_)
            · skip
              refine ev_b bX7_mayWin_202_203 (lv' := [(7, .int (zI (((F.ca : Nat) : Int) - 1 - ((F.ca : Nat) : Int)))), (5, .int (nI (a))), (6, .int (nI (f))), (0, .ref 0), (1, .int (nI (b))), (2, .int (nI (m))), (3, .int (nI (pop m))), (4, .int (nI (fg b)))]) (st' := [.int (nI (0))]) (w2 := modW 0 ((F.bd, F.st, F.pr, F.ow, kd, fg, F.rs, F.ca, F.ac) : SaleN) X K) rfl ?_
              exact ev_zret dX7_mayWin_203 rfl rfl mod_le (Nat.le_refl _) (Nat.le_refl _) ⟨(congrArg (fun t => some (Value.int (nI t))) (b01_f (by unfold mayP; omega)).symm), rfl⟩
            · skip
              refine ev_b bX7_mayWin_193_195 (lv' := [(7, .int (zI (((F.ca : Nat) : Int) - 1 - ((F.ca : Nat) : Int)))), (5, .int (nI (a))), (6, .int (nI (f))), (0, .ref 0), (1, .int (nI (b))), (2, .int (nI (m))), (3, .int (nI (pop m))), (4, .int (nI (fg b)))]) (st' := [.int (nI (1)), .int (nI (pop m))]) (w2 := modW 0 ((F.bd, F.st, F.pr, F.ow, kd, fg, F.rs, F.ca, F.ac) : SaleN) X K) rfl ?_
              refine ev_icmp_le_n (tgt := 202) (by omega) (by decide) dX7_mayWin_195 (by decide) (fun h195 => ?_) (fun h195 => ?_)
              · skip
                refine ev_b bX7_mayWin_202_203 (lv' := [(7, .int (zI (((F.ca : Nat) : Int) - 1 - ((F.ca : Nat) : Int)))), (5, .int (nI (a))), (6, .int (nI (f))), (0, .ref 0), (1, .int (nI (b))), (2, .int (nI (m))), (3, .int (nI (pop m))), (4, .int (nI (fg b)))]) (st' := [.int (nI (0))]) (w2 := modW 0 ((F.bd, F.st, F.pr, F.ow, kd, fg, F.rs, F.ca, F.ac) : SaleN) X K) rfl ?_
                exact ev_zret dX7_mayWin_203 rfl rfl mod_le (Nat.le_refl _) (Nat.le_refl _) ⟨(congrArg (fun t => some (Value.int (nI t))) (b01_f (by unfold mayP; omega)).symm), rfl⟩
              · skip
                refine ev_b bX7_mayWin_198_203 (lv' := [(7, .int (zI (((F.ca : Nat) : Int) - 1 - ((F.ca : Nat) : Int)))), (5, .int (nI (a))), (6, .int (nI (f))), (0, .ref 0), (1, .int (nI (b))), (2, .int (nI (m))), (3, .int (nI (pop m))), (4, .int (nI (fg b)))]) (st' := [.int (nI (1))]) (w2 := modW 0 ((F.bd, F.st, F.pr, F.ow, kd, fg, F.rs, F.ca, F.ac) : SaleN) X K) rfl ?_
                exact ev_zret dX7_mayWin_203 rfl rfl mod_le (Nat.le_refl _) (Nat.le_refl _) ⟨(congrArg (fun t => some (Value.int (nI t))) (b01_t (by unfold mayP; omega)).symm), rfl⟩
        | succ j_ ih41 =>
          intro k hk41 a f hinv41
          have hlt41 : k < F.ca := by omega
          refine ev_b bX7_mayWin_41_43 (lv' := [(7, .int (zI (((F.ca : Nat) : Int) - 1 - ((k : Nat) : Int)))), (5, .int (nI (a))), (6, .int (nI (f))), (0, .ref 0), (1, .int (nI (b))), (2, .int (nI (m))), (3, .int (nI (pop m))), (4, .int (nI (fg b)))]) (st' := [.int (zI (((F.ca : Nat) : Int) - 1 - ((k : Nat) : Int)))]) (w2 := modW 0 ((F.bd, F.st, F.pr, F.ow, kd, fg, F.rs, F.ca, F.ac) : SaleN) X K) rfl ?_
          refine ev_if_lt_z (tgt := 80) (by constructor <;> omega) dX7_mayWin_43 (by decide) (fun h43 => (by exfalso; omega)) (fun h43 => ?_)
          refine ev_eq (lv' := [(7, .int (nI (F.ca - 1 - k))), (5, .int (nI (a))), (6, .int (nI (f))), (0, .ref 0), (1, .int (nI (b))), (2, .int (nI (m))), (3, .int (nI (pop m))), (4, .int (nI (fg b)))]) (by rw [show ((F.ca : Nat) : Int) - 1 - ((k : Nat) : Int) = ((F.ca - 1 - k : Nat) : Int) from by omega, zI_nat]) rfl rfl ?_
          refine ev_b bX7_mayWin_46_49 (lv' := [(7, .int (nI (F.ca - 1 - k))), (5, .int (nI (a))), (6, .int (nI (f))), (0, .ref 0), (1, .int (nI (b))), (2, .int (nI (m))), (3, .int (nI (pop m))), (4, .int (nI (fg b)))]) (st' := [.int (nI (F.ca - 1 - k)), .int (nI (m))]) (w2 := modW 0 ((F.bd, F.st, F.pr, F.ow, kd, fg, F.rs, F.ca, F.ac) : SaleN) X K) rfl ?_
          refine ev_callS (Yc := mX7_has) [] dX7_mayWin_49 tw_1057 kX7_has (m_X7_has m (F.ca - 1 - k) (by omega) (by omega)) rfl (st := []) rfl (by decide) rfl (by decide) (Nat.le_of_ble_eq_true rfl) (Nat.le_refl _) (Nat.le_refl _) (fun r w' h => by obtain ⟨-, rfl⟩ := h; exact Nat.le_of_ble_eq_true rfl) ?_
          rintro _ _ ⟨rfl, rfl⟩
          refine ev_eq (lv' := [(7, .int (nI (F.ca - 1 - k))), (5, .int (nI (a))), (6, .int (nI (f))), (0, .ref 0), (1, .int (nI (b))), (2, .int (nI (m))), (3, .int (nI (pop m))), (4, .int (nI (fg b)))]) (st' := [.int (nI (b01 (m.testBit (F.ca - 1 - k) = true)))]) (w' := modW 0 ((F.bd, F.st, F.pr, F.ow, kd, fg, F.rs, F.ca, F.ac) : SaleN) X K) rfl rfl rfl ?_
          refine ev_ifne_b (tgt := 58) dX7_mayWin_52 (by decide) (fun h52 => ?_) (fun h52 => ?_)
          · skip
            have hnext := mw_on hinv41 hlt41 hca h52
            refine ev_b bX7_mayWin_58_66 (lv' := [(7, .int (nI (F.ca - 1 - k))), (5, .int (nI (a))), (6, .int (nI (f))), (0, .ref 0), (1, .int (nI (b))), (2, .int (nI (m))), (3, .int (nI (pop m))), (4, .int (nI (fg b)))]) (st' := [.int (nI (F.ca - 1 - k)), .ref 6, .int (nI (a))]) (w2 := modW 0 ((F.bd, F.st, F.pr, F.ow, kd, fg, F.rs, F.ca, F.ac) : SaleN) X K) rfl ?_
            refine ev_iald_n (f := F.pr) dX7_mayWin_66 rfl (by omega) (by decide) ?_
            refine ev_iadd_n dX7_mayWin_67 ?_
            refine ev_b bX7_mayWin_68_74 (lv' := [(6, .int (nI (F.ca - 1 - k))), (5, .int (nI (a + (F.pr (F.ca - 1 - k))))), (7, .int (nI (F.ca - 1 - k))), (0, .ref 0), (1, .int (nI (b))), (2, .int (nI (m))), (3, .int (nI (pop m))), (4, .int (nI (fg b)))]) (st' := []) (w2 := modW 0 ((F.bd, F.st, F.pr, F.ow, kd, fg, F.rs, F.ca, F.ac) : SaleN) X K) rfl ?_
            refine ev_eq (lv' := [(6, .int (nI (F.ca - 1 - k))), (5, .int (nI (a + (F.pr (F.ca - 1 - k))))), (7, .int (zI (((F.ca - 1 - k : Nat) : Int)))), (0, .ref 0), (1, .int (nI (b))), (2, .int (nI (m))), (3, .int (nI (pop m))), (4, .int (nI (fg b)))]) (by rw [zI_nat]) rfl rfl ?_
            refine ev_iinc_z (v := -1) dX7_mayWin_74 rfl (by decide) ?_
            refine ev_eq (lv' := [(7, .int (zI ((((F.ca - 1 - k : Nat) : Int)) + -1))), (6, .int (nI (F.ca - 1 - k))), (5, .int (nI (a + (F.pr (F.ca - 1 - k))))), (0, .ref 0), (1, .int (nI (b))), (2, .int (nI (m))), (3, .int (nI (pop m))), (4, .int (nI (fg b)))]) rfl rfl rfl ?_
            refine ev_b bX7_mayWin_77_41 (lv' := [(7, .int (zI ((((F.ca - 1 - k : Nat) : Int)) + -1))), (6, .int (nI (F.ca - 1 - k))), (5, .int (nI (a + (F.pr (F.ca - 1 - k))))), (0, .ref 0), (1, .int (nI (b))), (2, .int (nI (m))), (3, .int (nI (pop m))), (4, .int (nI (fg b)))]) (st' := []) (w2 := modW 0 ((F.bd, F.st, F.pr, F.ow, kd, fg, F.rs, F.ca, F.ac) : SaleN) X K) rfl ?_
            refine ev_pick (lv' := [(7, .int (zI ((((F.ca - 1 - k : Nat) : Int)) + -1))), (5, .int (nI (a + (F.pr (F.ca - 1 - k))))), (6, .int (nI (F.ca - 1 - k))), (0, .ref 0), (1, .int (nI (b))), (2, .int (nI (m))), (3, .int (nI (pop m))), (4, .int (nI (fg b)))]) rfl ?_
            rw [show zI ((((F.ca - 1 - k : Nat) : Int)) + -1) = zI (((F.ca : Nat) : Int) - 1 - (((k + 1) : Nat) : Int)) from congrArg zI (by omega)]
            exact ih41 (k + 1) (by omega) _ _ hnext
          · skip
            have hnext := mw_off hinv41 hlt41 h52
            refine ev_b bX7_mayWin_55_74 (lv' := [(7, .int (nI (F.ca - 1 - k))), (5, .int (nI (a))), (6, .int (nI (f))), (0, .ref 0), (1, .int (nI (b))), (2, .int (nI (m))), (3, .int (nI (pop m))), (4, .int (nI (fg b)))]) (st' := []) (w2 := modW 0 ((F.bd, F.st, F.pr, F.ow, kd, fg, F.rs, F.ca, F.ac) : SaleN) X K) rfl ?_
            refine ev_eq (lv' := [(7, .int (zI (((F.ca - 1 - k : Nat) : Int)))), (5, .int (nI (a))), (6, .int (nI (f))), (0, .ref 0), (1, .int (nI (b))), (2, .int (nI (m))), (3, .int (nI (pop m))), (4, .int (nI (fg b)))]) (by rw [zI_nat]) rfl rfl ?_
            refine ev_iinc_z (v := -1) dX7_mayWin_74 rfl (by decide) ?_
            refine ev_eq (lv' := [(7, .int (zI ((((F.ca - 1 - k : Nat) : Int)) + -1))), (5, .int (nI (a))), (6, .int (nI (f))), (0, .ref 0), (1, .int (nI (b))), (2, .int (nI (m))), (3, .int (nI (pop m))), (4, .int (nI (fg b)))]) rfl rfl rfl ?_
            refine ev_b bX7_mayWin_77_41 (lv' := [(7, .int (zI ((((F.ca - 1 - k : Nat) : Int)) + -1))), (5, .int (nI (a))), (6, .int (nI (f))), (0, .ref 0), (1, .int (nI (b))), (2, .int (nI (m))), (3, .int (nI (pop m))), (4, .int (nI (fg b)))]) (st' := []) (w2 := modW 0 ((F.bd, F.st, F.pr, F.ow, kd, fg, F.rs, F.ca, F.ac) : SaleN) X K) rfl ?_
            rw [show zI ((((F.ca - 1 - k : Nat) : Int)) + -1) = zI (((F.ca : Nat) : Int) - 1 - (((k + 1) : Nat) : Int)) from congrArg zI (by omega)]
            exact ih41 (k + 1) (by omega) _ _ hnext
      refine ev_pick (lv' := [(7, .int (zI ((((F.ca : Nat) : Int)) - (((1 : Nat) : Int))))), (5, .int (nI (0))), (6, .int (nI (0))), (0, .ref 0), (1, .int (nI (b))), (2, .int (nI (m))), (3, .int (nI (pop m))), (4, .int (nI (fg b)))]) rfl ?_
      rw [show zI ((((F.ca : Nat) : Int)) - (((1 : Nat) : Int))) = zI (((F.ca : Nat) : Int) - 1 - ((0 : Nat) : Int)) from congrArg zI (by omega)]
      exact L41 F.ca 0 (by omega) 0 0 mw_start
    · skip
      refine ev_b bX7_mayWin_17_18 (lv' := [(3, .int (nI (pop m))), (0, .ref 0), (1, .int (nI (b))), (2, .int (nI (m)))]) (st' := [.int (nI (1))]) (w2 := modW 0 ((F.bd, F.st, F.pr, F.ow, kd, fg, F.rs, F.ca, F.ac) : SaleN) X K) rfl ?_
      exact ev_zret dX7_mayWin_18 rfl rfl mod_le (Nat.le_refl _) (Nat.le_refl _) ⟨(congrArg (fun t => some (Value.int (nI t))) (b01_t (by first | exact may_zero hm h14 | (unfold mayP; omega))).symm), rfl⟩
theorem bX7_findOwn_0_2 {l : Launch} {E : XE} : Snd l E mX7_findOwn 0 2 (xs [x_push (.int (nI 0)), x_istore 1]) := Snd.cons (snd_iconst (v := nI 0) dX7_findOwn_0 (by decide)) (Snd.cons (snd_istore_n (i := 1) dX7_findOwn_1 rfl (by decide)) Snd.nil)
theorem bX7_findOwn_2_4 {l : Launch} {E : XE} : Snd l E mX7_findOwn 2 4 (xs [x_iload 1, x_push (.int (nI 5))]) := Snd.cons (snd_iload_n (i := 1) dX7_findOwn_2 rfl) (Snd.cons (snd_iconst (v := nI 5) dX7_findOwn_3 (by decide)) Snd.nil)
theorem bX7_findOwn_20_22 {l : Launch} {E : XE} : Snd l E mX7_findOwn 20 22 (xs [x_push (.int (nI 0)), x_istore 1]) := Snd.cons (snd_iconst (v := nI 0) dX7_findOwn_20 (by decide)) (Snd.cons (snd_istore_n (i := 1) dX7_findOwn_21 rfl (by decide)) Snd.nil)
theorem bX7_findOwn_22_27 {l : Launch} {E : XE} : Snd l E mX7_findOwn 22 27 (xs [x_iload 1, x_aload 0, x_get 8 6]) := Snd.cons (snd_iload_n (i := 1) dX7_findOwn_22 rfl) (Snd.cons (snd_aload_n (i := 0) dX7_findOwn_23 rfl) (Snd.cons (snd_get (ci := 8) (k := 6) dX7_findOwn_24 rfl inX7 (by decide) tw_920) Snd.nil))
theorem bX7_findOwn_30_39 {l : Launch} {E : XE} : Snd l E mX7_findOwn 30 39 (xs [x_aload 0, x_get 8 11, x_aload 0, x_get 8 3, x_iload 1]) := Snd.cons (snd_aload_n (i := 0) dX7_findOwn_30 rfl) (Snd.cons (snd_get (ci := 8) (k := 11) dX7_findOwn_31 rfl inX7 (by decide) tw_925) (Snd.cons (snd_aload_n (i := 0) dX7_findOwn_34 rfl) (Snd.cons (snd_get (ci := 8) (k := 3) dX7_findOwn_35 rfl inX7 (by decide) tw_917) (Snd.cons (snd_iload_n (i := 1) dX7_findOwn_38 rfl) Snd.nil))))
theorem bX7_findOwn_40_41 {l : Launch} {E : XE} : Snd l E mX7_findOwn 40 41 (xs [x_dup2]) := Snd.cons (snd_dup2 dX7_findOwn_40) Snd.nil
theorem bX7_findOwn_42_44 {l : Launch} {E : XE} : Snd l E mX7_findOwn 42 44 (xs [x_push (.int (nI 1)), x_iload 1]) := Snd.cons (snd_iconst (v := nI 1) dX7_findOwn_42 (by decide)) (Snd.cons (snd_iload_n (i := 1) dX7_findOwn_43 rfl) Snd.nil)
theorem bX7_findOwn_50_22 {l : Launch} {E : XE} : Snd l E mX7_findOwn 50 22 (xs [x_id]) := Snd.cons (snd_goto (tgt := 22) dX7_findOwn_50 (by decide)) Snd.nil
theorem bX7_findOwn_7_13 {l : Launch} {E : XE} : Snd l E mX7_findOwn 7 13 (xs [x_aload 0, x_get 8 11, x_iload 1, x_push (.int (nI 0))]) := Snd.cons (snd_aload_n (i := 0) dX7_findOwn_7 rfl) (Snd.cons (snd_get (ci := 8) (k := 11) dX7_findOwn_8 rfl inX7 (by decide) tw_925) (Snd.cons (snd_iload_n (i := 1) dX7_findOwn_11 rfl) (Snd.cons (snd_iconst (v := nI 0) dX7_findOwn_12 (by decide)) Snd.nil)))
theorem bX7_findOwn_17_2 {l : Launch} {E : XE} : Snd l E mX7_findOwn 17 2 (xs [x_id]) := Snd.cons (snd_goto (tgt := 2) dX7_findOwn_17 (by decide)) Snd.nil
set_option maxHeartbeats 4000000 in
set_option maxRecDepth 100000 in
theorem m_X7_findOwn {l : Launch} {E : XE} (S : SaleN) (X : ModN) (K : Option (Nat → Nat)) (hca : S.ca ≤ 10) (hbd : ∀ k, k < S.ca → S.bd k < 5) : MetE l E mX7_findOwn (0) 0 0 [.ref 0] (modW 0 S X K) (fun r w' => r = none ∧ w' = modW 0 S ((X.rf, X.wo, X.ta, (owF S), X.sl, X.sh, X.lt, X.ty, X.pl, X.nu, X.od, X.tt, X.oo, X.on, X.wn, X.pd, X.li, X.rr, X.rn, X.dr) : ModN) K) := by
  refine MetE.of (by decide +kernel) (Nat.le_of_ble_eq_true rfl) ?_
  refine ev_eq (lv' := [(0, .ref 0)]) (st' := []) (w' := modW 0 S X K) rfl rfl rfl ?_
  refine ev_b bX7_findOwn_0_2 (lv' := [(1, .int (nI (0))), (0, .ref 0)]) (st' := []) (w2 := modW 0 S X K) rfl ?_
  have L2 : ∀ (j_ k : Nat), k + j_ = 5 → ∀ (g : Nat → Nat), (∀ j, j < k → g j = 0) → Ev l E mX7_findOwn (0) 0 0 (modW 0 S X K) (fun r w' => r = none ∧ w' = modW 0 S ((X.rf, X.wo, X.ta, (owF S), X.sl, X.sh, X.lt, X.ty, X.pl, X.nu, X.od, X.tt, X.oo, X.on, X.wn, X.pd, X.li, X.rr, X.rn, X.dr) : ModN) K) 0 0 2 [(1, .int (nI (k))), (0, .ref 0)] [] (modW 0 S ((X.rf, X.wo, X.ta, g, X.sl, X.sh, X.lt, X.ty, X.pl, X.nu, X.od, X.tt, X.oo, X.on, X.wn, X.pd, X.li, X.rr, X.rn, X.dr) : ModN) K) := by
    intro j_
    induction j_ with
    | zero =>
      intro k hk2 g hinv2
      replace hk2 : k = 5 := hk2
      subst hk2
      refine ev_b bX7_findOwn_2_4 (lv' := [(1, .int (nI (5))), (0, .ref 0)]) (st' := [.int (nI (5)), .int (nI (5))]) (w2 := modW 0 S ((X.rf, X.wo, X.ta, g, X.sl, X.sh, X.lt, X.ty, X.pl, X.nu, X.od, X.tt, X.oo, X.on, X.wn, X.pd, X.li, X.rr, X.rn, X.dr) : ModN) K) rfl ?_
      refine ev_icmp_ge_n (tgt := 20) (by decide) (by decide) dX7_findOwn_4 (by decide) (fun h4 => ?_) (fun h4 => (by exfalso; omega))
      refine ev_b bX7_findOwn_20_22 (lv' := [(1, .int (nI (0))), (0, .ref 0)]) (st' := []) (w2 := modW 0 S ((X.rf, X.wo, X.ta, g, X.sl, X.sh, X.lt, X.ty, X.pl, X.nu, X.od, X.tt, X.oo, X.on, X.wn, X.pd, X.li, X.rr, X.rn, X.dr) : ModN) K) rfl ?_
      have L22 : ∀ (j_ k : Nat), k + j_ = S.ca → ∀ (g2 : Nat → Nat), (∀ j, j < 5 → g2 j = ownTo S.bd j k) → Ev l E mX7_findOwn (0) 0 0 (modW 0 S X K) (fun r w' => r = none ∧ w' = modW 0 S ((X.rf, X.wo, X.ta, (owF S), X.sl, X.sh, X.lt, X.ty, X.pl, X.nu, X.od, X.tt, X.oo, X.on, X.wn, X.pd, X.li, X.rr, X.rn, X.dr) : ModN) K) 0 0 22 [(1, .int (nI (k))), (0, .ref 0)] [] (modW 0 S ((X.rf, X.wo, X.ta, g2, X.sl, X.sh, X.lt, X.ty, X.pl, X.nu, X.od, X.tt, X.oo, X.on, X.wn, X.pd, X.li, X.rr, X.rn, X.dr) : ModN) K) := by
        intro j_
        induction j_ with
        | zero =>
          intro k hk22 g2 hinv22
          replace hk22 : k = S.ca := hk22
          subst hk22
          refine ev_b bX7_findOwn_22_27 (lv' := [(1, .int (nI (S.ca))), (0, .ref 0)]) (st' := [.int (nI (S.ca)), .int (nI (S.ca))]) (w2 := modW 0 S ((X.rf, X.wo, X.ta, g2, X.sl, X.sh, X.lt, X.ty, X.pl, X.nu, X.od, X.tt, X.oo, X.on, X.wn, X.pd, X.li, X.rr, X.rn, X.dr) : ModN) K) rfl ?_
          refine ev_icmp_ge_n (tgt := 53) (by omega) (by omega) dX7_findOwn_27 (by decide) (fun h27 => ?_) (fun h27 => (by exfalso; omega))
          refine ev_arr (b := 10) (g := aI (owF S)) rfl (fun j hj => congrArg nI (hinv22 j hj)) ?_
          refine ev_eq (w' := modW 0 S ((X.rf, X.wo, X.ta, (owF S), X.sl, X.sh, X.lt, X.ty, X.pl, X.nu, X.od, X.tt, X.oo, X.on, X.wn, X.pd, X.li, X.rr, X.rn, X.dr) : ModN) K) rfl rfl rfl ?_
          exact ev_vret dX7_findOwn_53 rfl mod_le (Nat.le_refl _) (Nat.le_refl _) ⟨rfl, rfl⟩
        | succ j_ ih22 =>
          intro k hk22 g2 hinv22
          have hlt22 : k < S.ca := by omega
          have hbk := hbd k hlt22
          refine ev_b bX7_findOwn_22_27 (lv' := [(1, .int (nI (k))), (0, .ref 0)]) (st' := [.int (nI (S.ca)), .int (nI (k))]) (w2 := modW 0 S ((X.rf, X.wo, X.ta, g2, X.sl, X.sh, X.lt, X.ty, X.pl, X.nu, X.od, X.tt, X.oo, X.on, X.wn, X.pd, X.li, X.rr, X.rn, X.dr) : ModN) K) rfl ?_
          refine ev_icmp_ge_n (tgt := 53) (by omega) (by omega) dX7_findOwn_27 (by decide) (fun h27 => (by exfalso; omega)) (fun h27 => ?_)
          refine ev_b bX7_findOwn_30_39 (lv' := [(1, .int (nI (k))), (0, .ref 0)]) (st' := [.int (nI (k)), .ref 4, .ref 10]) (w2 := modW 0 S ((X.rf, X.wo, X.ta, g2, X.sl, X.sh, X.lt, X.ty, X.pl, X.nu, X.od, X.tt, X.oo, X.on, X.wn, X.pd, X.li, X.rr, X.rn, X.dr) : ModN) K) rfl ?_
          refine ev_iald_n (f := S.bd) dX7_findOwn_39 rfl (by omega) (by decide) ?_
          refine ev_b bX7_findOwn_40_41 (lv' := [(1, .int (nI (k))), (0, .ref 0)]) (st' := [.int (nI (S.bd k)), .ref 10, .int (nI (S.bd k)), .ref 10]) (w2 := modW 0 S ((X.rf, X.wo, X.ta, g2, X.sl, X.sh, X.lt, X.ty, X.pl, X.nu, X.od, X.tt, X.oo, X.on, X.wn, X.pd, X.li, X.rr, X.rn, X.dr) : ModN) K) rfl ?_
          refine ev_iald_n (f := g2) dX7_findOwn_41 rfl (by omega) (by decide) ?_
          refine ev_b bX7_findOwn_42_44 (lv' := [(1, .int (nI (k))), (0, .ref 0)]) (st' := [.int (nI (k)), .int (nI (1)), .int (nI (g2 (S.bd k))), .int (nI (S.bd k)), .ref 10]) (w2 := modW 0 S ((X.rf, X.wo, X.ta, g2, X.sl, X.sh, X.lt, X.ty, X.pl, X.nu, X.od, X.tt, X.oo, X.on, X.wn, X.pd, X.li, X.rr, X.rn, X.dr) : ModN) K) rfl ?_
          refine ev_ishl_n (by omega) dX7_findOwn_44 ?_
          refine ev_ior_n dX7_findOwn_45 ?_
          refine ev_iast_n (f := g2) dX7_findOwn_46 rfl (by omega) (by decide) ?_
          refine ev_eq (w' := modW 0 S ((X.rf, X.wo, X.ta, up g2 (S.bd k) ((g2 (S.bd k)) ||| (1 <<< k)), X.sl, X.sh, X.lt, X.ty, X.pl, X.nu, X.od, X.tt, X.oo, X.on, X.wn, X.pd, X.li, X.rr, X.rn, X.dr) : ModN) K) rfl rfl rfl ?_
          refine ev_iinc_n (x := k) (v := 1) dX7_findOwn_47 rfl (by decide) ?_
          refine ev_eq (lv' := [(1, .int (nI (k + 1))), (0, .ref 0)]) rfl rfl rfl ?_
          refine ev_b bX7_findOwn_50_22 (lv' := [(1, .int (nI (k + 1))), (0, .ref 0)]) (st' := []) (w2 := modW 0 S ((X.rf, X.wo, X.ta, up g2 (S.bd k) ((g2 (S.bd k)) ||| (1 <<< k)), X.sl, X.sh, X.lt, X.ty, X.pl, X.nu, X.od, X.tt, X.oo, X.on, X.wn, X.pd, X.li, X.rr, X.rn, X.dr) : ModN) K) rfl ?_
          rw [show nI (k + 1) = nI ((k + 1)) from congrArg nI (by omega)]
          exact ih22 (k + 1) (by omega) _ (own_up hinv22)
      exact L22 S.ca 0 (by omega) g hinv2
    | succ j_ ih2 =>
      intro k hk2 g hinv2
      have hlt2 : k < 5 := by omega
      refine ev_b bX7_findOwn_2_4 (lv' := [(1, .int (nI (k))), (0, .ref 0)]) (st' := [.int (nI (5)), .int (nI (k))]) (w2 := modW 0 S ((X.rf, X.wo, X.ta, g, X.sl, X.sh, X.lt, X.ty, X.pl, X.nu, X.od, X.tt, X.oo, X.on, X.wn, X.pd, X.li, X.rr, X.rn, X.dr) : ModN) K) rfl ?_
      refine ev_icmp_ge_n (tgt := 20) (by omega) (by decide) dX7_findOwn_4 (by decide) (fun h4 => (by exfalso; omega)) (fun h4 => ?_)
      refine ev_b bX7_findOwn_7_13 (lv' := [(1, .int (nI (k))), (0, .ref 0)]) (st' := [.int (nI (0)), .int (nI (k)), .ref 10]) (w2 := modW 0 S ((X.rf, X.wo, X.ta, g, X.sl, X.sh, X.lt, X.ty, X.pl, X.nu, X.od, X.tt, X.oo, X.on, X.wn, X.pd, X.li, X.rr, X.rn, X.dr) : ModN) K) rfl ?_
      refine ev_iast_n (f := g) dX7_findOwn_13 rfl (by omega) (by decide) ?_
      refine ev_eq (w' := modW 0 S ((X.rf, X.wo, X.ta, up g k 0, X.sl, X.sh, X.lt, X.ty, X.pl, X.nu, X.od, X.tt, X.oo, X.on, X.wn, X.pd, X.li, X.rr, X.rn, X.dr) : ModN) K) rfl rfl rfl ?_
      refine ev_iinc_n (x := k) (v := 1) dX7_findOwn_14 rfl (by decide) ?_
      refine ev_eq (lv' := [(1, .int (nI (k + 1))), (0, .ref 0)]) rfl rfl rfl ?_
      refine ev_b bX7_findOwn_17_2 (lv' := [(1, .int (nI (k + 1))), (0, .ref 0)]) (st' := []) (w2 := modW 0 S ((X.rf, X.wo, X.ta, up g k 0, X.sl, X.sh, X.lt, X.ty, X.pl, X.nu, X.od, X.tt, X.oo, X.on, X.wn, X.pd, X.li, X.rr, X.rn, X.dr) : ModN) K) rfl ?_
      rw [show nI (k + 1) = nI ((k + 1)) from congrArg nI (by omega)]
      exact ih2 (k + 1) (by omega) _ (up_zero hinv2)
  exact L2 5 0 (by omega) X.ow (fun j hj => absurd hj (Nat.not_lt_zero j))
theorem bX7_itemsOf_0_4 {l : Launch} {E : XE} : Snd l E mX7_itemsOf 0 4 (xs [x_push (.int (nI 0)), x_istore 2, x_push (.int (nI 0)), x_istore 3]) := Snd.cons (snd_iconst (v := nI 0) dX7_itemsOf_0 (by decide)) (Snd.cons (snd_istore_n (i := 2) dX7_itemsOf_1 rfl (by decide)) (Snd.cons (snd_iconst (v := nI 0) dX7_itemsOf_2 (by decide)) (Snd.cons (snd_istore_n (i := 3) dX7_itemsOf_3 rfl (by decide)) Snd.nil)))
theorem bX7_itemsOf_4_9 {l : Launch} {E : XE} : Snd l E mX7_itemsOf 4 9 (xs [x_iload 3, x_aload 0, x_get 8 6]) := Snd.cons (snd_iload_n (i := 3) dX7_itemsOf_4 rfl) (Snd.cons (snd_aload_n (i := 0) dX7_itemsOf_5 rfl) (Snd.cons (snd_get (ci := 8) (k := 6) dX7_itemsOf_6 rfl inX7 (by decide) tw_920) Snd.nil))
theorem bX7_itemsOf_51_52 {l : Launch} {E : XE} : Snd l E mX7_itemsOf 51 52 (xs [x_iload 2]) := Snd.cons (snd_iload_n (i := 2) dX7_itemsOf_51 rfl) Snd.nil
theorem bX7_itemsOf_12_14 {l : Launch} {E : XE} : Snd l E mX7_itemsOf 12 14 (xs [x_iload 1, x_iload 3]) := Snd.cons (snd_iload_n (i := 1) dX7_itemsOf_12 rfl) (Snd.cons (snd_iload_n (i := 3) dX7_itemsOf_13 rfl) Snd.nil)
theorem bX7_itemsOf_23_29 {l : Launch} {E : XE} : Snd l E mX7_itemsOf 23 29 (xs [x_iload 2, x_aload 0, x_get 8 4, x_iload 3]) := Snd.cons (snd_iload_n (i := 2) dX7_itemsOf_23 rfl) (Snd.cons (snd_aload_n (i := 0) dX7_itemsOf_24 rfl) (Snd.cons (snd_get (ci := 8) (k := 4) dX7_itemsOf_25 rfl inX7 (by decide) tw_918) (Snd.cons (snd_iload_n (i := 3) dX7_itemsOf_28 rfl) Snd.nil)))
theorem bX7_itemsOf_36_42 {l : Launch} {E : XE} : Snd l E mX7_itemsOf 36 42 (xs [x_iload 2, x_aload 0, x_get 8 4, x_iload 3]) := Snd.cons (snd_iload_n (i := 2) dX7_itemsOf_36 rfl) (Snd.cons (snd_aload_n (i := 0) dX7_itemsOf_37 rfl) (Snd.cons (snd_get (ci := 8) (k := 4) dX7_itemsOf_38 rfl inX7 (by decide) tw_918) (Snd.cons (snd_iload_n (i := 3) dX7_itemsOf_41 rfl) Snd.nil)))
theorem bX7_itemsOf_44_45 {l : Launch} {E : XE} : Snd l E mX7_itemsOf 44 45 (xs [x_istore 2]) := Snd.cons (snd_istore_n (i := 2) dX7_itemsOf_44 rfl (by decide)) Snd.nil
theorem bX7_itemsOf_48_4 {l : Launch} {E : XE} : Snd l E mX7_itemsOf 48 4 (xs [x_id]) := Snd.cons (snd_goto (tgt := 4) dX7_itemsOf_48 (by decide)) Snd.nil
theorem bX7_itemsOf_34_35 {l : Launch} {E : XE} : Snd l E mX7_itemsOf 34 35 (xs [x_push (.int (-1))]) := Snd.cons (snd_iconst (v := -1) dX7_itemsOf_34 (by decide)) Snd.nil
theorem bX7_itemsOf_20_45 {l : Launch} {E : XE} : Snd l E mX7_itemsOf 20 45 (xs [x_id]) := Snd.cons (snd_goto (tgt := 45) dX7_itemsOf_20 (by decide)) Snd.nil
set_option maxHeartbeats 4000000 in
set_option maxRecDepth 100000 in
theorem m_X7_itemsOf {l : Launch} {E : XE} (F : SaleN) (kd fg : Nat → Nat) (X : ModN) (K : Option (Nat → Nat)) (m : Nat) (hF : SaleOK F) (hm : m < 2147483648) : MetE l E mX7_itemsOf (1) 0 0 [.ref 0, .int (nI (m))] (modW 0 ((F.bd, F.st, F.pr, F.ow, kd, fg, F.rs, F.ca, F.ac) : SaleN) X K) (fun r w' => r = some (.int (zI (tkZ F m))) ∧ w' = modW 0 ((F.bd, F.st, F.pr, F.ow, kd, fg, F.rs, F.ca, F.ac) : SaleN) X K) := by
  refine MetE.of (by decide +kernel) (Nat.le_of_ble_eq_true rfl) ?_
  have hca := hF.1
  refine ev_eq (lv' := [(0, .ref 0), (1, .int (nI (m)))]) (st' := []) (w' := modW 0 ((F.bd, F.st, F.pr, F.ow, kd, fg, F.rs, F.ca, F.ac) : SaleN) X K) rfl rfl rfl ?_
  refine ev_b bX7_itemsOf_0_4 (lv' := [(3, .int (nI (0))), (2, .int (nI (0))), (0, .ref 0), (1, .int (nI (m)))]) (st' := []) (w2 := modW 0 ((F.bd, F.st, F.pr, F.ow, kd, fg, F.rs, F.ca, F.ac) : SaleN) X K) rfl ?_
  have L4 : ∀ (j_ k : Nat), k + j_ = F.ca → (dsj F.st m k = true) → Ev l E mX7_itemsOf (1) 0 0 (modW 0 ((F.bd, F.st, F.pr, F.ow, kd, fg, F.rs, F.ca, F.ac) : SaleN) X K) (fun r w' => r = some (.int (zI (tkZ F m))) ∧ w' = modW 0 ((F.bd, F.st, F.pr, F.ow, kd, fg, F.rs, F.ca, F.ac) : SaleN) X K) 0 0 4 [(3, .int (nI (k))), (2, .int (nI (itTo F.st m k))), (0, .ref 0), (1, .int (nI (m)))] [] (modW 0 ((F.bd, F.st, F.pr, F.ow, kd, fg, F.rs, F.ca, F.ac) : SaleN) X K) := by
    intro j_
    induction j_ with
    | zero =>
      intro k hk4  hinv4
      replace hk4 : k = F.ca := hk4
      subst hk4
      refine ev_b bX7_itemsOf_4_9 (lv' := [(3, .int (nI (F.ca))), (2, .int (nI (itTo F.st m F.ca))), (0, .ref 0), (1, .int (nI (m)))]) (st' := [.int (nI (F.ca)), .int (nI (F.ca))]) (w2 := modW 0 ((F.bd, F.st, F.pr, F.ow, kd, fg, F.rs, F.ca, F.ac) : SaleN) X K) rfl ?_
      refine ev_icmp_ge_n (tgt := 51) (by omega) (by omega) dX7_itemsOf_9 (by decide) (fun h9 => ?_) (fun h9 => (by exfalso; omega))
      refine ev_b bX7_itemsOf_51_52 (lv' := [(3, .int (nI (F.ca))), (2, .int (nI (itTo F.st m F.ca))), (0, .ref 0), (1, .int (nI (m)))]) (st' := [.int (nI (itTo F.st m F.ca))]) (w2 := modW 0 ((F.bd, F.st, F.pr, F.ow, kd, fg, F.rs, F.ca, F.ac) : SaleN) X K) rfl ?_
      exact ev_iret dX7_itemsOf_52 rfl mod_le (Nat.le_refl _) (Nat.le_refl _) ⟨(congrArg (fun t => some (Value.int t)) (show nI (itTo F.st m F.ca) = zI (tkZ F m) from by rw [← zI_nat]; exact congrArg zI (by exact (if_pos hinv4).symm))), rfl⟩
    | succ j_ ih4 =>
      intro k hk4  hinv4
      have hlt4 : k < F.ca := by omega
      have hst := (hF.2.2.1 k hlt4).2.2.1
      refine ev_b bX7_itemsOf_4_9 (lv' := [(3, .int (nI (k))), (2, .int (nI (itTo F.st m k))), (0, .ref 0), (1, .int (nI (m)))]) (st' := [.int (nI (F.ca)), .int (nI (k))]) (w2 := modW 0 ((F.bd, F.st, F.pr, F.ow, kd, fg, F.rs, F.ca, F.ac) : SaleN) X K) rfl ?_
      refine ev_icmp_ge_n (tgt := 51) (by omega) (by omega) dX7_itemsOf_9 (by decide) (fun h9 => (by exfalso; omega)) (fun h9 => ?_)
      refine ev_b bX7_itemsOf_12_14 (lv' := [(3, .int (nI (k))), (2, .int (nI (itTo F.st m k))), (0, .ref 0), (1, .int (nI (m)))]) (st' := [.int (nI (k)), .int (nI (m))]) (w2 := modW 0 ((F.bd, F.st, F.pr, F.ow, kd, fg, F.rs, F.ca, F.ac) : SaleN) X K) rfl ?_
      refine ev_callS (Yc := mX7_has) [] dX7_itemsOf_14 tw_1057 kX7_has (m_X7_has m k hm (by omega)) rfl (st := []) rfl (by decide) rfl (by decide) (Nat.le_of_ble_eq_true rfl) (Nat.le_refl _) (Nat.le_refl _) (fun r w' h => by obtain ⟨-, rfl⟩ := h; exact Nat.le_of_ble_eq_true rfl) ?_
      rintro _ _ ⟨rfl, rfl⟩
      refine ev_eq (lv' := [(3, .int (nI (k))), (2, .int (nI (itTo F.st m k))), (0, .ref 0), (1, .int (nI (m)))]) (st' := [.int (nI (b01 (m.testBit k = true)))]) (w' := modW 0 ((F.bd, F.st, F.pr, F.ow, kd, fg, F.rs, F.ca, F.ac) : SaleN) X K) rfl rfl rfl ?_
      refine ev_ifne_b (tgt := 23) dX7_itemsOf_17 (by decide) (fun h17 => ?_) (fun h17 => ?_)
      · skip
        refine ev_b bX7_itemsOf_23_29 (lv' := [(3, .int (nI (k))), (2, .int (nI (itTo F.st m k))), (0, .ref 0), (1, .int (nI (m)))]) (st' := [.int (nI (k)), .ref 5, .int (nI (itTo F.st m k))]) (w2 := modW 0 ((F.bd, F.st, F.pr, F.ow, kd, fg, F.rs, F.ca, F.ac) : SaleN) X K) rfl ?_
        refine ev_iald_n (f := F.st) dX7_itemsOf_29 rfl (by omega) (by decide) ?_
        refine ev_iand_n dX7_itemsOf_30 ?_
        refine ev_if_eq_n (tgt := 36) (by exact Nat.lt_of_le_of_lt Nat.and_le_right (by omega)) dX7_itemsOf_31 (by decide) (fun h31 => ?_) (fun h31 => ?_)
        · skip
          have hnext := dsj_on hinv4 h31
          refine ev_b bX7_itemsOf_36_42 (lv' := [(3, .int (nI (k))), (2, .int (nI (itTo F.st m k))), (0, .ref 0), (1, .int (nI (m)))]) (st' := [.int (nI (k)), .ref 5, .int (nI (itTo F.st m k))]) (w2 := modW 0 ((F.bd, F.st, F.pr, F.ow, kd, fg, F.rs, F.ca, F.ac) : SaleN) X K) rfl ?_
          refine ev_iald_n (f := F.st) dX7_itemsOf_42 rfl (by omega) (by decide) ?_
          refine ev_ior_n dX7_itemsOf_43 ?_
          refine ev_b bX7_itemsOf_44_45 (lv' := [(2, .int (nI ((itTo F.st m k) ||| (F.st k)))), (3, .int (nI (k))), (0, .ref 0), (1, .int (nI (m)))]) (st' := []) (w2 := modW 0 ((F.bd, F.st, F.pr, F.ow, kd, fg, F.rs, F.ca, F.ac) : SaleN) X K) rfl ?_
          refine ev_iinc_n (x := k) (v := 1) dX7_itemsOf_45 rfl (by decide) ?_
          refine ev_eq (lv' := [(3, .int (nI (k + 1))), (2, .int (nI ((itTo F.st m k) ||| (F.st k)))), (0, .ref 0), (1, .int (nI (m)))]) rfl rfl rfl ?_
          refine ev_b bX7_itemsOf_48_4 (lv' := [(3, .int (nI (k + 1))), (2, .int (nI ((itTo F.st m k) ||| (F.st k)))), (0, .ref 0), (1, .int (nI (m)))]) (st' := []) (w2 := modW 0 ((F.bd, F.st, F.pr, F.ow, kd, fg, F.rs, F.ca, F.ac) : SaleN) X K) rfl ?_
          rw [show nI (k + 1) = nI ((k + 1)) from congrArg nI (by omega)]
          rw [show nI ((itTo F.st m k) ||| (F.st k)) = nI (itTo F.st m (k + 1)) from congrArg nI (by rw [itTo_s]; first | rw [if_pos h17] | rw [if_neg h17])]
          exact ih4 (k + 1) (by omega) hnext
        · skip
          refine ev_b bX7_itemsOf_34_35 (lv' := [(3, .int (nI (k))), (2, .int (nI (itTo F.st m k))), (0, .ref 0), (1, .int (nI (m)))]) (st' := [.int (-1)]) (w2 := modW 0 ((F.bd, F.st, F.pr, F.ow, kd, fg, F.rs, F.ca, F.ac) : SaleN) X K) rfl ?_
          exact ev_iret dX7_itemsOf_35 rfl mod_le (Nat.le_refl _) (Nat.le_refl _) ⟨(by rw [show tkZ F m = -1 from if_neg (fun z => dsj_off h17 h31 (dsj_mono F.ca hlt4 z))]; rfl), rfl⟩
      · skip
        have hnext := dsj_in hinv4 h17
        refine ev_b bX7_itemsOf_20_45 (lv' := [(3, .int (nI (k))), (2, .int (nI (itTo F.st m k))), (0, .ref 0), (1, .int (nI (m)))]) (st' := []) (w2 := modW 0 ((F.bd, F.st, F.pr, F.ow, kd, fg, F.rs, F.ca, F.ac) : SaleN) X K) rfl ?_
        refine ev_iinc_n (x := k) (v := 1) dX7_itemsOf_45 rfl (by decide) ?_
        refine ev_eq (lv' := [(3, .int (nI (k + 1))), (2, .int (nI (itTo F.st m k))), (0, .ref 0), (1, .int (nI (m)))]) rfl rfl rfl ?_
        refine ev_b bX7_itemsOf_48_4 (lv' := [(3, .int (nI (k + 1))), (2, .int (nI (itTo F.st m k))), (0, .ref 0), (1, .int (nI (m)))]) (st' := []) (w2 := modW 0 ((F.bd, F.st, F.pr, F.ow, kd, fg, F.rs, F.ca, F.ac) : SaleN) X K) rfl ?_
        rw [show nI (k + 1) = nI ((k + 1)) from congrArg nI (by omega)]
        rw [show nI (itTo F.st m k) = nI (itTo F.st m (k + 1)) from congrArg nI (by rw [itTo_s]; first | rw [if_pos h17] | rw [if_neg h17])]
        exact ih4 (k + 1) (by omega) hnext
  exact L4 F.ca 0 (by omega) rfl
theorem bX7_worthOf_0_5 {l : Launch} {E : XE} : Snd l E mX7_worthOf 0 5 (xs [x_push (.int (nI 0)), x_istore 3, x_push (.int (nI 0)), x_istore 4]) := Snd.cons (snd_iconst (v := nI 0) dX7_worthOf_0 (by decide)) (Snd.cons (snd_istore_n (i := 3) dX7_worthOf_1 rfl (by decide)) (Snd.cons (snd_iconst (v := nI 0) dX7_worthOf_2 (by decide)) (Snd.cons (snd_istore dX7_worthOf_3 (by decide)) Snd.nil)))
theorem bX7_worthOf_5_9 {l : Launch} {E : XE} : Snd l E mX7_worthOf 5 9 (xs [x_iload 4, x_push (.int (nI 6))]) := Snd.cons (snd_iload dX7_worthOf_5) (Snd.cons (snd_bipush (v := nI 6) dX7_worthOf_7 (by decide)) Snd.nil)
theorem bX7_worthOf_41_44 {l : Launch} {E : XE} : Snd l E mX7_worthOf 41 44 (xs [x_push (.int (nI 0)), x_istore 4]) := Snd.cons (snd_iconst (v := nI 0) dX7_worthOf_41 (by decide)) (Snd.cons (snd_istore dX7_worthOf_42 (by decide)) Snd.nil)
theorem bX7_worthOf_44_50 {l : Launch} {E : XE} : Snd l E mX7_worthOf 44 50 (xs [x_iload 4, x_aload 0, x_get 8 6]) := Snd.cons (snd_iload dX7_worthOf_44) (Snd.cons (snd_aload_n (i := 0) dX7_worthOf_46 rfl) (Snd.cons (snd_get (ci := 8) (k := 6) dX7_worthOf_47 rfl inX7 (by decide) tw_920) Snd.nil))
theorem bX7_worthOf_82_83 {l : Launch} {E : XE} : Snd l E mX7_worthOf 82 83 (xs [x_iload 3]) := Snd.cons (snd_iload_n (i := 3) dX7_worthOf_82 rfl) Snd.nil
theorem bX7_worthOf_53_57 {l : Launch} {E : XE} : Snd l E mX7_worthOf 53 57 (xs [x_iload 3, x_iload 1, x_iload 4]) := Snd.cons (snd_iload_n (i := 3) dX7_worthOf_53 rfl) (Snd.cons (snd_iload_n (i := 1) dX7_worthOf_54 rfl) (Snd.cons (snd_iload dX7_worthOf_55) Snd.nil))
theorem bX7_worthOf_73_74 {l : Launch} {E : XE} : Snd l E mX7_worthOf 73 74 (xs [x_push (.int (nI 0))]) := Snd.cons (snd_iconst (v := nI 0) dX7_worthOf_73 (by decide)) Snd.nil
theorem bX7_worthOf_75_76 {l : Launch} {E : XE} : Snd l E mX7_worthOf 75 76 (xs [x_istore 3]) := Snd.cons (snd_istore_n (i := 3) dX7_worthOf_75 rfl (by decide)) Snd.nil
theorem bX7_worthOf_79_44 {l : Launch} {E : XE} : Snd l E mX7_worthOf 79 44 (xs [x_id]) := Snd.cons (snd_goto (tgt := 44) dX7_worthOf_79 (by decide)) Snd.nil
theorem bX7_worthOf_63_69 {l : Launch} {E : XE} : Snd l E mX7_worthOf 63 69 (xs [x_aload 0, x_get 8 5, x_iload 4]) := Snd.cons (snd_aload_n (i := 0) dX7_worthOf_63 rfl) (Snd.cons (snd_get (ci := 8) (k := 5) dX7_worthOf_64 rfl inX7 (by decide) tw_919) (Snd.cons (snd_iload dX7_worthOf_67) Snd.nil))
theorem bX7_worthOf_70_74 {l : Launch} {E : XE} : Snd l E mX7_worthOf 70 74 (xs [x_id]) := Snd.cons (snd_goto (tgt := 74) dX7_worthOf_70 (by decide)) Snd.nil
theorem bX7_worthOf_12_16 {l : Launch} {E : XE} : Snd l E mX7_worthOf 12 16 (xs [x_iload 3, x_iload 2, x_iload 4]) := Snd.cons (snd_iload_n (i := 3) dX7_worthOf_12 rfl) (Snd.cons (snd_iload_n (i := 2) dX7_worthOf_13 rfl) (Snd.cons (snd_iload dX7_worthOf_14) Snd.nil))
theorem bX7_worthOf_26_32 {l : Launch} {E : XE} : Snd l E mX7_worthOf 26 32 (xs [x_aload 0, x_get 8 0, x_iload 4]) := Snd.cons (snd_aload_n (i := 0) dX7_worthOf_26 rfl) (Snd.cons (snd_get (ci := 8) (k := 0) dX7_worthOf_27 rfl inX7 (by decide) tw_914) (Snd.cons (snd_iload dX7_worthOf_30) Snd.nil))
theorem bX7_worthOf_34_35 {l : Launch} {E : XE} : Snd l E mX7_worthOf 34 35 (xs [x_istore 3]) := Snd.cons (snd_istore_n (i := 3) dX7_worthOf_34 rfl (by decide)) Snd.nil
theorem bX7_worthOf_38_5 {l : Launch} {E : XE} : Snd l E mX7_worthOf 38 5 (xs [x_id]) := Snd.cons (snd_goto (tgt := 5) dX7_worthOf_38 (by decide)) Snd.nil
theorem bX7_worthOf_22_33 {l : Launch} {E : XE} : Snd l E mX7_worthOf 22 33 (xs [x_push (.int (nI 0)), x_id]) := Snd.cons (snd_iconst (v := nI 0) dX7_worthOf_22 (by decide)) (Snd.cons (snd_goto (tgt := 33) dX7_worthOf_23 (by decide)) Snd.nil)
set_option maxHeartbeats 4000000 in
set_option maxRecDepth 100000 in
theorem m_X7_worthOf {l : Launch} {E : XE} (F : SaleN) (kd fg : Nat → Nat) (X : ModN) (K : Option (Nat → Nat)) (m items : Nat) (hF : SaleOK F) (hm : m < 2147483648) (hi : items < 2147483648) : MetE l E mX7_worthOf (1) 0 0 [.ref 0, .int (nI (m)), .int (nI (items))] (modW 0 ((F.bd, F.st, F.pr, F.ow, kd, fg, F.rs, F.ca, F.ac) : SaleN) X K) (fun r w' => r = some (.int (nI (rbTo F.rs items 6 + prTo F.pr m F.ca))) ∧ w' = modW 0 ((F.bd, F.st, F.pr, F.ow, kd, fg, F.rs, F.ca, F.ac) : SaleN) X K) := by
  refine MetE.of (by decide +kernel) (Nat.le_of_ble_eq_true rfl) ?_
  have hca := hF.1
  refine ev_eq (lv' := [(0, .ref 0), (1, .int (nI (m))), (2, .int (nI (items)))]) (st' := []) (w' := modW 0 ((F.bd, F.st, F.pr, F.ow, kd, fg, F.rs, F.ca, F.ac) : SaleN) X K) rfl rfl rfl ?_
  refine ev_b bX7_worthOf_0_5 (lv' := [(4, .int (nI (0))), (3, .int (nI (0))), (0, .ref 0), (1, .int (nI (m))), (2, .int (nI (items)))]) (st' := []) (w2 := modW 0 ((F.bd, F.st, F.pr, F.ow, kd, fg, F.rs, F.ca, F.ac) : SaleN) X K) rfl ?_
  have L5 : ∀ (j_ k : Nat), k + j_ = 6 → Ev l E mX7_worthOf (1) 0 0 (modW 0 ((F.bd, F.st, F.pr, F.ow, kd, fg, F.rs, F.ca, F.ac) : SaleN) X K) (fun r w' => r = some (.int (nI (rbTo F.rs items 6 + prTo F.pr m F.ca))) ∧ w' = modW 0 ((F.bd, F.st, F.pr, F.ow, kd, fg, F.rs, F.ca, F.ac) : SaleN) X K) 0 0 5 [(4, .int (nI (k))), (3, .int (nI (rbTo F.rs items k))), (0, .ref 0), (1, .int (nI (m))), (2, .int (nI (items)))] [] (modW 0 ((F.bd, F.st, F.pr, F.ow, kd, fg, F.rs, F.ca, F.ac) : SaleN) X K) := by
    intro j_
    induction j_ with
    | zero =>
      intro k hk5  
      replace hk5 : k = 6 := hk5
      subst hk5
      refine ev_b bX7_worthOf_5_9 (lv' := [(4, .int (nI (6))), (3, .int (nI (rbTo F.rs items 6))), (0, .ref 0), (1, .int (nI (m))), (2, .int (nI (items)))]) (st' := [.int (nI (6)), .int (nI (6))]) (w2 := modW 0 ((F.bd, F.st, F.pr, F.ow, kd, fg, F.rs, F.ca, F.ac) : SaleN) X K) rfl ?_
      refine ev_icmp_ge_n (tgt := 41) (by decide) (by decide) dX7_worthOf_9 (by decide) (fun h9 => ?_) (fun h9 => (by exfalso; omega))
      refine ev_b bX7_worthOf_41_44 (lv' := [(4, .int (nI (0))), (3, .int (nI (rbTo F.rs items 6))), (0, .ref 0), (1, .int (nI (m))), (2, .int (nI (items)))]) (st' := []) (w2 := modW 0 ((F.bd, F.st, F.pr, F.ow, kd, fg, F.rs, F.ca, F.ac) : SaleN) X K) rfl ?_
      have L44 : ∀ (j_ k : Nat), k + j_ = F.ca → Ev l E mX7_worthOf (1) 0 0 (modW 0 ((F.bd, F.st, F.pr, F.ow, kd, fg, F.rs, F.ca, F.ac) : SaleN) X K) (fun r w' => r = some (.int (nI (rbTo F.rs items 6 + prTo F.pr m F.ca))) ∧ w' = modW 0 ((F.bd, F.st, F.pr, F.ow, kd, fg, F.rs, F.ca, F.ac) : SaleN) X K) 0 0 44 [(4, .int (nI (k))), (3, .int (nI (rbTo F.rs items 6 + prTo F.pr m k))), (0, .ref 0), (1, .int (nI (m))), (2, .int (nI (items)))] [] (modW 0 ((F.bd, F.st, F.pr, F.ow, kd, fg, F.rs, F.ca, F.ac) : SaleN) X K) := by
        intro j_
        induction j_ with
        | zero =>
          intro k hk44  
          replace hk44 : k = F.ca := hk44
          subst hk44
          refine ev_b bX7_worthOf_44_50 (lv' := [(4, .int (nI (F.ca))), (3, .int (nI (rbTo F.rs items 6 + prTo F.pr m F.ca))), (0, .ref 0), (1, .int (nI (m))), (2, .int (nI (items)))]) (st' := [.int (nI (F.ca)), .int (nI (F.ca))]) (w2 := modW 0 ((F.bd, F.st, F.pr, F.ow, kd, fg, F.rs, F.ca, F.ac) : SaleN) X K) rfl ?_
          refine ev_icmp_ge_n (tgt := 82) (by omega) (by omega) dX7_worthOf_50 (by decide) (fun h50 => ?_) (fun h50 => (by exfalso; omega))
          refine ev_b bX7_worthOf_82_83 (lv' := [(4, .int (nI (F.ca))), (3, .int (nI (rbTo F.rs items 6 + prTo F.pr m F.ca))), (0, .ref 0), (1, .int (nI (m))), (2, .int (nI (items)))]) (st' := [.int (nI (rbTo F.rs items 6 + prTo F.pr m F.ca))]) (w2 := modW 0 ((F.bd, F.st, F.pr, F.ow, kd, fg, F.rs, F.ca, F.ac) : SaleN) X K) rfl ?_
          exact ev_iret dX7_worthOf_83 rfl mod_le (Nat.le_refl _) (Nat.le_refl _) ⟨rfl, rfl⟩
        | succ j_ ih44 =>
          intro k hk44  
          have hlt44 : k < F.ca := by omega
          refine ev_b bX7_worthOf_44_50 (lv' := [(4, .int (nI (k))), (3, .int (nI (rbTo F.rs items 6 + prTo F.pr m k))), (0, .ref 0), (1, .int (nI (m))), (2, .int (nI (items)))]) (st' := [.int (nI (F.ca)), .int (nI (k))]) (w2 := modW 0 ((F.bd, F.st, F.pr, F.ow, kd, fg, F.rs, F.ca, F.ac) : SaleN) X K) rfl ?_
          refine ev_icmp_ge_n (tgt := 82) (by omega) (by omega) dX7_worthOf_50 (by decide) (fun h50 => (by exfalso; omega)) (fun h50 => ?_)
          refine ev_b bX7_worthOf_53_57 (lv' := [(4, .int (nI (k))), (3, .int (nI (rbTo F.rs items 6 + prTo F.pr m k))), (0, .ref 0), (1, .int (nI (m))), (2, .int (nI (items)))]) (st' := [.int (nI (k)), .int (nI (m)), .int (nI (rbTo F.rs items 6 + prTo F.pr m k))]) (w2 := modW 0 ((F.bd, F.st, F.pr, F.ow, kd, fg, F.rs, F.ca, F.ac) : SaleN) X K) rfl ?_
          refine ev_callS (Yc := mX7_has) [] dX7_worthOf_57 tw_1057 kX7_has (m_X7_has m k hm (by omega)) rfl (st := [.int (nI (rbTo F.rs items 6 + prTo F.pr m k))]) rfl (by decide) rfl (by decide) (Nat.le_of_ble_eq_true rfl) (Nat.le_refl _) (Nat.le_refl _) (fun r w' h => by obtain ⟨-, rfl⟩ := h; exact Nat.le_of_ble_eq_true rfl) ?_
          rintro _ _ ⟨rfl, rfl⟩
          refine ev_eq (lv' := [(4, .int (nI (k))), (3, .int (nI (rbTo F.rs items 6 + prTo F.pr m k))), (0, .ref 0), (1, .int (nI (m))), (2, .int (nI (items)))]) (st' := [.int (nI (b01 (m.testBit k = true))), .int (nI (rbTo F.rs items 6 + prTo F.pr m k))]) (w' := modW 0 ((F.bd, F.st, F.pr, F.ow, kd, fg, F.rs, F.ca, F.ac) : SaleN) X K) rfl rfl rfl ?_
          refine ev_ifeq_b (tgt := 73) dX7_worthOf_60 (by decide) (fun h60 => ?_) (fun h60 => ?_)
          · skip
            refine ev_b bX7_worthOf_73_74 (lv' := [(4, .int (nI (k))), (3, .int (nI (rbTo F.rs items 6 + prTo F.pr m k))), (0, .ref 0), (1, .int (nI (m))), (2, .int (nI (items)))]) (st' := [.int (nI (0)), .int (nI (rbTo F.rs items 6 + prTo F.pr m k))]) (w2 := modW 0 ((F.bd, F.st, F.pr, F.ow, kd, fg, F.rs, F.ca, F.ac) : SaleN) X K) rfl ?_
            refine ev_iadd_n dX7_worthOf_74 ?_
            refine ev_b bX7_worthOf_75_76 (lv' := [(3, .int (nI ((rbTo F.rs items 6 + prTo F.pr m k) + 0))), (4, .int (nI (k))), (0, .ref 0), (1, .int (nI (m))), (2, .int (nI (items)))]) (st' := []) (w2 := modW 0 ((F.bd, F.st, F.pr, F.ow, kd, fg, F.rs, F.ca, F.ac) : SaleN) X K) rfl ?_
            refine ev_iinc_n (x := k) (v := 1) dX7_worthOf_76 rfl (by decide) ?_
            refine ev_eq (lv' := [(4, .int (nI (k + 1))), (3, .int (nI ((rbTo F.rs items 6 + prTo F.pr m k) + 0))), (0, .ref 0), (1, .int (nI (m))), (2, .int (nI (items)))]) rfl rfl rfl ?_
            refine ev_b bX7_worthOf_79_44 (lv' := [(4, .int (nI (k + 1))), (3, .int (nI ((rbTo F.rs items 6 + prTo F.pr m k) + 0))), (0, .ref 0), (1, .int (nI (m))), (2, .int (nI (items)))]) (st' := []) (w2 := modW 0 ((F.bd, F.st, F.pr, F.ow, kd, fg, F.rs, F.ca, F.ac) : SaleN) X K) rfl ?_
            rw [show nI (k + 1) = nI ((k + 1)) from congrArg nI (by omega)]
            rw [show nI ((rbTo F.rs items 6 + prTo F.pr m k) + 0) = nI (rbTo F.rs items 6 + prTo F.pr m (k + 1)) from congrArg nI (by rw [prTo_s]; first | (rw [if_neg h60]; rfl) | rw [if_pos h60, Nat.add_assoc])]
            exact ih44 (k + 1) (by omega) 
          · skip
            refine ev_b bX7_worthOf_63_69 (lv' := [(4, .int (nI (k))), (3, .int (nI (rbTo F.rs items 6 + prTo F.pr m k))), (0, .ref 0), (1, .int (nI (m))), (2, .int (nI (items)))]) (st' := [.int (nI (k)), .ref 6, .int (nI (rbTo F.rs items 6 + prTo F.pr m k))]) (w2 := modW 0 ((F.bd, F.st, F.pr, F.ow, kd, fg, F.rs, F.ca, F.ac) : SaleN) X K) rfl ?_
            refine ev_iald_n (f := F.pr) dX7_worthOf_69 rfl (by omega) (by decide) ?_
            refine ev_b bX7_worthOf_70_74 (lv' := [(4, .int (nI (k))), (3, .int (nI (rbTo F.rs items 6 + prTo F.pr m k))), (0, .ref 0), (1, .int (nI (m))), (2, .int (nI (items)))]) (st' := [.int (nI (F.pr k)), .int (nI (rbTo F.rs items 6 + prTo F.pr m k))]) (w2 := modW 0 ((F.bd, F.st, F.pr, F.ow, kd, fg, F.rs, F.ca, F.ac) : SaleN) X K) rfl ?_
            refine ev_iadd_n dX7_worthOf_74 ?_
            refine ev_b bX7_worthOf_75_76 (lv' := [(3, .int (nI ((rbTo F.rs items 6 + prTo F.pr m k) + (F.pr k)))), (4, .int (nI (k))), (0, .ref 0), (1, .int (nI (m))), (2, .int (nI (items)))]) (st' := []) (w2 := modW 0 ((F.bd, F.st, F.pr, F.ow, kd, fg, F.rs, F.ca, F.ac) : SaleN) X K) rfl ?_
            refine ev_iinc_n (x := k) (v := 1) dX7_worthOf_76 rfl (by decide) ?_
            refine ev_eq (lv' := [(4, .int (nI (k + 1))), (3, .int (nI ((rbTo F.rs items 6 + prTo F.pr m k) + (F.pr k)))), (0, .ref 0), (1, .int (nI (m))), (2, .int (nI (items)))]) rfl rfl rfl ?_
            refine ev_b bX7_worthOf_79_44 (lv' := [(4, .int (nI (k + 1))), (3, .int (nI ((rbTo F.rs items 6 + prTo F.pr m k) + (F.pr k)))), (0, .ref 0), (1, .int (nI (m))), (2, .int (nI (items)))]) (st' := []) (w2 := modW 0 ((F.bd, F.st, F.pr, F.ow, kd, fg, F.rs, F.ca, F.ac) : SaleN) X K) rfl ?_
            rw [show nI (k + 1) = nI ((k + 1)) from congrArg nI (by omega)]
            rw [show nI ((rbTo F.rs items 6 + prTo F.pr m k) + (F.pr k)) = nI (rbTo F.rs items 6 + prTo F.pr m (k + 1)) from congrArg nI (by rw [prTo_s]; first | (rw [if_neg h60]; rfl) | rw [if_pos h60, Nat.add_assoc])]
            exact ih44 (k + 1) (by omega) 
      exact L44 F.ca 0 (by omega) 
    | succ j_ ih5 =>
      intro k hk5  
      have hlt5 : k < 6 := by omega
      refine ev_b bX7_worthOf_5_9 (lv' := [(4, .int (nI (k))), (3, .int (nI (rbTo F.rs items k))), (0, .ref 0), (1, .int (nI (m))), (2, .int (nI (items)))]) (st' := [.int (nI (6)), .int (nI (k))]) (w2 := modW 0 ((F.bd, F.st, F.pr, F.ow, kd, fg, F.rs, F.ca, F.ac) : SaleN) X K) rfl ?_
      refine ev_icmp_ge_n (tgt := 41) (by omega) (by decide) dX7_worthOf_9 (by decide) (fun h9 => (by exfalso; omega)) (fun h9 => ?_)
      refine ev_b bX7_worthOf_12_16 (lv' := [(4, .int (nI (k))), (3, .int (nI (rbTo F.rs items k))), (0, .ref 0), (1, .int (nI (m))), (2, .int (nI (items)))]) (st' := [.int (nI (k)), .int (nI (items)), .int (nI (rbTo F.rs items k))]) (w2 := modW 0 ((F.bd, F.st, F.pr, F.ow, kd, fg, F.rs, F.ca, F.ac) : SaleN) X K) rfl ?_
      refine ev_callS (Yc := mX7_has) [] dX7_worthOf_16 tw_1057 kX7_has (m_X7_has items k hi (by omega)) rfl (st := [.int (nI (rbTo F.rs items k))]) rfl (by decide) rfl (by decide) (Nat.le_of_ble_eq_true rfl) (Nat.le_refl _) (Nat.le_refl _) (fun r w' h => by obtain ⟨-, rfl⟩ := h; exact Nat.le_of_ble_eq_true rfl) ?_
      rintro _ _ ⟨rfl, rfl⟩
      refine ev_eq (lv' := [(4, .int (nI (k))), (3, .int (nI (rbTo F.rs items k))), (0, .ref 0), (1, .int (nI (m))), (2, .int (nI (items)))]) (st' := [.int (nI (b01 (items.testBit k = true))), .int (nI (rbTo F.rs items k))]) (w' := modW 0 ((F.bd, F.st, F.pr, F.ow, kd, fg, F.rs, F.ca, F.ac) : SaleN) X K) rfl rfl rfl ?_
      refine ev_ifeq_b (tgt := 26) dX7_worthOf_19 (by decide) (fun h19 => ?_) (fun h19 => ?_)
      · skip
        refine ev_b bX7_worthOf_26_32 (lv' := [(4, .int (nI (k))), (3, .int (nI (rbTo F.rs items k))), (0, .ref 0), (1, .int (nI (m))), (2, .int (nI (items)))]) (st' := [.int (nI (k)), .ref 1, .int (nI (rbTo F.rs items k))]) (w2 := modW 0 ((F.bd, F.st, F.pr, F.ow, kd, fg, F.rs, F.ca, F.ac) : SaleN) X K) rfl ?_
        refine ev_iald_n (f := F.rs) dX7_worthOf_32 rfl (by omega) (by decide) ?_
        refine ev_iadd_n dX7_worthOf_33 ?_
        refine ev_b bX7_worthOf_34_35 (lv' := [(3, .int (nI ((rbTo F.rs items k) + (F.rs k)))), (4, .int (nI (k))), (0, .ref 0), (1, .int (nI (m))), (2, .int (nI (items)))]) (st' := []) (w2 := modW 0 ((F.bd, F.st, F.pr, F.ow, kd, fg, F.rs, F.ca, F.ac) : SaleN) X K) rfl ?_
        refine ev_iinc_n (x := k) (v := 1) dX7_worthOf_35 rfl (by decide) ?_
        refine ev_eq (lv' := [(4, .int (nI (k + 1))), (3, .int (nI ((rbTo F.rs items k) + (F.rs k)))), (0, .ref 0), (1, .int (nI (m))), (2, .int (nI (items)))]) rfl rfl rfl ?_
        refine ev_b bX7_worthOf_38_5 (lv' := [(4, .int (nI (k + 1))), (3, .int (nI ((rbTo F.rs items k) + (F.rs k)))), (0, .ref 0), (1, .int (nI (m))), (2, .int (nI (items)))]) (st' := []) (w2 := modW 0 ((F.bd, F.st, F.pr, F.ow, kd, fg, F.rs, F.ca, F.ac) : SaleN) X K) rfl ?_
        rw [show nI (k + 1) = nI ((k + 1)) from congrArg nI (by omega)]
        rw [show nI ((rbTo F.rs items k) + (F.rs k)) = nI (rbTo F.rs items (k + 1)) from congrArg nI (by rw [rbTo_s]; first | rw [if_neg h19] | rw [if_pos h19])]
        exact ih5 (k + 1) (by omega) 
      · skip
        refine ev_b bX7_worthOf_22_33 (lv' := [(4, .int (nI (k))), (3, .int (nI (rbTo F.rs items k))), (0, .ref 0), (1, .int (nI (m))), (2, .int (nI (items)))]) (st' := [.int (nI (0)), .int (nI (rbTo F.rs items k))]) (w2 := modW 0 ((F.bd, F.st, F.pr, F.ow, kd, fg, F.rs, F.ca, F.ac) : SaleN) X K) rfl ?_
        refine ev_iadd_n dX7_worthOf_33 ?_
        refine ev_b bX7_worthOf_34_35 (lv' := [(3, .int (nI ((rbTo F.rs items k) + 0))), (4, .int (nI (k))), (0, .ref 0), (1, .int (nI (m))), (2, .int (nI (items)))]) (st' := []) (w2 := modW 0 ((F.bd, F.st, F.pr, F.ow, kd, fg, F.rs, F.ca, F.ac) : SaleN) X K) rfl ?_
        refine ev_iinc_n (x := k) (v := 1) dX7_worthOf_35 rfl (by decide) ?_
        refine ev_eq (lv' := [(4, .int (nI (k + 1))), (3, .int (nI ((rbTo F.rs items k) + 0))), (0, .ref 0), (1, .int (nI (m))), (2, .int (nI (items)))]) rfl rfl rfl ?_
        refine ev_b bX7_worthOf_38_5 (lv' := [(4, .int (nI (k + 1))), (3, .int (nI ((rbTo F.rs items k) + 0))), (0, .ref 0), (1, .int (nI (m))), (2, .int (nI (items)))]) (st' := []) (w2 := modW 0 ((F.bd, F.st, F.pr, F.ow, kd, fg, F.rs, F.ca, F.ac) : SaleN) X K) rfl ?_
        rw [show nI (k + 1) = nI ((k + 1)) from congrArg nI (by omega)]
        rw [show nI ((rbTo F.rs items k) + 0) = nI (rbTo F.rs items (k + 1)) from congrArg nI (by rw [rbTo_s]; first | rw [if_neg h19] | rw [if_pos h19])]
        exact ih5 (k + 1) (by omega) 
  exact L5 6 0 (by omega) 
theorem bX7_pricesOf_0_4 {l : Launch} {E : XE} : Snd l E mX7_pricesOf 0 4 (xs [x_push (.int (nI 0)), x_istore 2, x_push (.int (nI 0)), x_istore 3]) := Snd.cons (snd_iconst (v := nI 0) dX7_pricesOf_0 (by decide)) (Snd.cons (snd_istore_n (i := 2) dX7_pricesOf_1 rfl (by decide)) (Snd.cons (snd_iconst (v := nI 0) dX7_pricesOf_2 (by decide)) (Snd.cons (snd_istore_n (i := 3) dX7_pricesOf_3 rfl (by decide)) Snd.nil)))
theorem bX7_pricesOf_4_9 {l : Launch} {E : XE} : Snd l E mX7_pricesOf 4 9 (xs [x_iload 3, x_aload 0, x_get 8 6]) := Snd.cons (snd_iload_n (i := 3) dX7_pricesOf_4 rfl) (Snd.cons (snd_aload_n (i := 0) dX7_pricesOf_5 rfl) (Snd.cons (snd_get (ci := 8) (k := 6) dX7_pricesOf_6 rfl inX7 (by decide) tw_920) Snd.nil))
theorem bX7_pricesOf_39_40 {l : Launch} {E : XE} : Snd l E mX7_pricesOf 39 40 (xs [x_iload 2]) := Snd.cons (snd_iload_n (i := 2) dX7_pricesOf_39 rfl) Snd.nil
theorem bX7_pricesOf_12_15 {l : Launch} {E : XE} : Snd l E mX7_pricesOf 12 15 (xs [x_iload 2, x_iload 1, x_iload 3]) := Snd.cons (snd_iload_n (i := 2) dX7_pricesOf_12 rfl) (Snd.cons (snd_iload_n (i := 1) dX7_pricesOf_13 rfl) (Snd.cons (snd_iload_n (i := 3) dX7_pricesOf_14 rfl) Snd.nil))
theorem bX7_pricesOf_30_31 {l : Launch} {E : XE} : Snd l E mX7_pricesOf 30 31 (xs [x_push (.int (nI 0))]) := Snd.cons (snd_iconst (v := nI 0) dX7_pricesOf_30 (by decide)) Snd.nil
theorem bX7_pricesOf_32_33 {l : Launch} {E : XE} : Snd l E mX7_pricesOf 32 33 (xs [x_istore 2]) := Snd.cons (snd_istore_n (i := 2) dX7_pricesOf_32 rfl (by decide)) Snd.nil
theorem bX7_pricesOf_36_4 {l : Launch} {E : XE} : Snd l E mX7_pricesOf 36 4 (xs [x_id]) := Snd.cons (snd_goto (tgt := 4) dX7_pricesOf_36 (by decide)) Snd.nil
theorem bX7_pricesOf_21_26 {l : Launch} {E : XE} : Snd l E mX7_pricesOf 21 26 (xs [x_aload 0, x_get 8 5, x_iload 3]) := Snd.cons (snd_aload_n (i := 0) dX7_pricesOf_21 rfl) (Snd.cons (snd_get (ci := 8) (k := 5) dX7_pricesOf_22 rfl inX7 (by decide) tw_919) (Snd.cons (snd_iload_n (i := 3) dX7_pricesOf_25 rfl) Snd.nil))
theorem bX7_pricesOf_27_31 {l : Launch} {E : XE} : Snd l E mX7_pricesOf 27 31 (xs [x_id]) := Snd.cons (snd_goto (tgt := 31) dX7_pricesOf_27 (by decide)) Snd.nil
set_option maxHeartbeats 4000000 in
set_option maxRecDepth 100000 in
theorem m_X7_pricesOf {l : Launch} {E : XE} (F : SaleN) (kd fg : Nat → Nat) (X : ModN) (K : Option (Nat → Nat)) (m : Nat) (hF : SaleOK F) (hm : m < 2147483648) : MetE l E mX7_pricesOf (1) 0 0 [.ref 0, .int (nI (m))] (modW 0 ((F.bd, F.st, F.pr, F.ow, kd, fg, F.rs, F.ca, F.ac) : SaleN) X K) (fun r w' => r = some (.int (nI (prTo F.pr m F.ca))) ∧ w' = modW 0 ((F.bd, F.st, F.pr, F.ow, kd, fg, F.rs, F.ca, F.ac) : SaleN) X K) := by
  refine MetE.of (by decide +kernel) (Nat.le_of_ble_eq_true rfl) ?_
  have hca := hF.1
  refine ev_eq (lv' := [(0, .ref 0), (1, .int (nI (m)))]) (st' := []) (w' := modW 0 ((F.bd, F.st, F.pr, F.ow, kd, fg, F.rs, F.ca, F.ac) : SaleN) X K) rfl rfl rfl ?_
  refine ev_b bX7_pricesOf_0_4 (lv' := [(3, .int (nI (0))), (2, .int (nI (0))), (0, .ref 0), (1, .int (nI (m)))]) (st' := []) (w2 := modW 0 ((F.bd, F.st, F.pr, F.ow, kd, fg, F.rs, F.ca, F.ac) : SaleN) X K) rfl ?_
  have L4 : ∀ (j_ k : Nat), k + j_ = F.ca → Ev l E mX7_pricesOf (1) 0 0 (modW 0 ((F.bd, F.st, F.pr, F.ow, kd, fg, F.rs, F.ca, F.ac) : SaleN) X K) (fun r w' => r = some (.int (nI (prTo F.pr m F.ca))) ∧ w' = modW 0 ((F.bd, F.st, F.pr, F.ow, kd, fg, F.rs, F.ca, F.ac) : SaleN) X K) 0 0 4 [(3, .int (nI (k))), (2, .int (nI (prTo F.pr m k))), (0, .ref 0), (1, .int (nI (m)))] [] (modW 0 ((F.bd, F.st, F.pr, F.ow, kd, fg, F.rs, F.ca, F.ac) : SaleN) X K) := by
    intro j_
    induction j_ with
    | zero =>
      intro k hk4  
      replace hk4 : k = F.ca := hk4
      subst hk4
      refine ev_b bX7_pricesOf_4_9 (lv' := [(3, .int (nI (F.ca))), (2, .int (nI (prTo F.pr m F.ca))), (0, .ref 0), (1, .int (nI (m)))]) (st' := [.int (nI (F.ca)), .int (nI (F.ca))]) (w2 := modW 0 ((F.bd, F.st, F.pr, F.ow, kd, fg, F.rs, F.ca, F.ac) : SaleN) X K) rfl ?_
      refine ev_icmp_ge_n (tgt := 39) (by omega) (by omega) dX7_pricesOf_9 (by decide) (fun h9 => ?_) (fun h9 => (by exfalso; omega))
      refine ev_b bX7_pricesOf_39_40 (lv' := [(3, .int (nI (F.ca))), (2, .int (nI (prTo F.pr m F.ca))), (0, .ref 0), (1, .int (nI (m)))]) (st' := [.int (nI (prTo F.pr m F.ca))]) (w2 := modW 0 ((F.bd, F.st, F.pr, F.ow, kd, fg, F.rs, F.ca, F.ac) : SaleN) X K) rfl ?_
      exact ev_iret dX7_pricesOf_40 rfl mod_le (Nat.le_refl _) (Nat.le_refl _) ⟨rfl, rfl⟩
    | succ j_ ih4 =>
      intro k hk4  
      have hlt4 : k < F.ca := by omega
      refine ev_b bX7_pricesOf_4_9 (lv' := [(3, .int (nI (k))), (2, .int (nI (prTo F.pr m k))), (0, .ref 0), (1, .int (nI (m)))]) (st' := [.int (nI (F.ca)), .int (nI (k))]) (w2 := modW 0 ((F.bd, F.st, F.pr, F.ow, kd, fg, F.rs, F.ca, F.ac) : SaleN) X K) rfl ?_
      refine ev_icmp_ge_n (tgt := 39) (by omega) (by omega) dX7_pricesOf_9 (by decide) (fun h9 => (by exfalso; omega)) (fun h9 => ?_)
      refine ev_b bX7_pricesOf_12_15 (lv' := [(3, .int (nI (k))), (2, .int (nI (prTo F.pr m k))), (0, .ref 0), (1, .int (nI (m)))]) (st' := [.int (nI (k)), .int (nI (m)), .int (nI (prTo F.pr m k))]) (w2 := modW 0 ((F.bd, F.st, F.pr, F.ow, kd, fg, F.rs, F.ca, F.ac) : SaleN) X K) rfl ?_
      refine ev_callS (Yc := mX7_has) [] dX7_pricesOf_15 tw_1057 kX7_has (m_X7_has m k hm (by omega)) rfl (st := [.int (nI (prTo F.pr m k))]) rfl (by decide) rfl (by decide) (Nat.le_of_ble_eq_true rfl) (Nat.le_refl _) (Nat.le_refl _) (fun r w' h => by obtain ⟨-, rfl⟩ := h; exact Nat.le_of_ble_eq_true rfl) ?_
      rintro _ _ ⟨rfl, rfl⟩
      refine ev_eq (lv' := [(3, .int (nI (k))), (2, .int (nI (prTo F.pr m k))), (0, .ref 0), (1, .int (nI (m)))]) (st' := [.int (nI (b01 (m.testBit k = true))), .int (nI (prTo F.pr m k))]) (w' := modW 0 ((F.bd, F.st, F.pr, F.ow, kd, fg, F.rs, F.ca, F.ac) : SaleN) X K) rfl rfl rfl ?_
      refine ev_ifeq_b (tgt := 30) dX7_pricesOf_18 (by decide) (fun h18 => ?_) (fun h18 => ?_)
      · skip
        refine ev_b bX7_pricesOf_30_31 (lv' := [(3, .int (nI (k))), (2, .int (nI (prTo F.pr m k))), (0, .ref 0), (1, .int (nI (m)))]) (st' := [.int (nI (0)), .int (nI (prTo F.pr m k))]) (w2 := modW 0 ((F.bd, F.st, F.pr, F.ow, kd, fg, F.rs, F.ca, F.ac) : SaleN) X K) rfl ?_
        refine ev_iadd_n dX7_pricesOf_31 ?_
        refine ev_b bX7_pricesOf_32_33 (lv' := [(2, .int (nI ((prTo F.pr m k) + 0))), (3, .int (nI (k))), (0, .ref 0), (1, .int (nI (m)))]) (st' := []) (w2 := modW 0 ((F.bd, F.st, F.pr, F.ow, kd, fg, F.rs, F.ca, F.ac) : SaleN) X K) rfl ?_
        refine ev_iinc_n (x := k) (v := 1) dX7_pricesOf_33 rfl (by decide) ?_
        refine ev_eq (lv' := [(3, .int (nI (k + 1))), (2, .int (nI ((prTo F.pr m k) + 0))), (0, .ref 0), (1, .int (nI (m)))]) rfl rfl rfl ?_
        refine ev_b bX7_pricesOf_36_4 (lv' := [(3, .int (nI (k + 1))), (2, .int (nI ((prTo F.pr m k) + 0))), (0, .ref 0), (1, .int (nI (m)))]) (st' := []) (w2 := modW 0 ((F.bd, F.st, F.pr, F.ow, kd, fg, F.rs, F.ca, F.ac) : SaleN) X K) rfl ?_
        rw [show nI (k + 1) = nI ((k + 1)) from congrArg nI (by omega)]
        rw [show nI ((prTo F.pr m k) + 0) = nI (prTo F.pr m (k + 1)) from congrArg nI (by rw [prTo_s]; first | rw [if_neg h18] | rw [if_pos h18])]
        exact ih4 (k + 1) (by omega) 
      · skip
        refine ev_b bX7_pricesOf_21_26 (lv' := [(3, .int (nI (k))), (2, .int (nI (prTo F.pr m k))), (0, .ref 0), (1, .int (nI (m)))]) (st' := [.int (nI (k)), .ref 6, .int (nI (prTo F.pr m k))]) (w2 := modW 0 ((F.bd, F.st, F.pr, F.ow, kd, fg, F.rs, F.ca, F.ac) : SaleN) X K) rfl ?_
        refine ev_iald_n (f := F.pr) dX7_pricesOf_26 rfl (by omega) (by decide) ?_
        refine ev_b bX7_pricesOf_27_31 (lv' := [(3, .int (nI (k))), (2, .int (nI (prTo F.pr m k))), (0, .ref 0), (1, .int (nI (m)))]) (st' := [.int (nI (F.pr k)), .int (nI (prTo F.pr m k))]) (w2 := modW 0 ((F.bd, F.st, F.pr, F.ow, kd, fg, F.rs, F.ca, F.ac) : SaleN) X K) rfl ?_
        refine ev_iadd_n dX7_pricesOf_31 ?_
        refine ev_b bX7_pricesOf_32_33 (lv' := [(2, .int (nI ((prTo F.pr m k) + (F.pr k)))), (3, .int (nI (k))), (0, .ref 0), (1, .int (nI (m)))]) (st' := []) (w2 := modW 0 ((F.bd, F.st, F.pr, F.ow, kd, fg, F.rs, F.ca, F.ac) : SaleN) X K) rfl ?_
        refine ev_iinc_n (x := k) (v := 1) dX7_pricesOf_33 rfl (by decide) ?_
        refine ev_eq (lv' := [(3, .int (nI (k + 1))), (2, .int (nI ((prTo F.pr m k) + (F.pr k)))), (0, .ref 0), (1, .int (nI (m)))]) rfl rfl rfl ?_
        refine ev_b bX7_pricesOf_36_4 (lv' := [(3, .int (nI (k + 1))), (2, .int (nI ((prTo F.pr m k) + (F.pr k)))), (0, .ref 0), (1, .int (nI (m)))]) (st' := []) (w2 := modW 0 ((F.bd, F.st, F.pr, F.ow, kd, fg, F.rs, F.ca, F.ac) : SaleN) X K) rfl ?_
        rw [show nI (k + 1) = nI ((k + 1)) from congrArg nI (by omega)]
        rw [show nI ((prTo F.pr m k) + (F.pr k)) = nI (prTo F.pr m (k + 1)) from congrArg nI (by rw [prTo_s]; first | rw [if_neg h18] | rw [if_pos h18])]
        exact ih4 (k + 1) (by omega) 
  exact L4 F.ca 0 (by omega) 
theorem bX7_isAhead_0_5 {l : Launch} {E : XE} : Snd l E mX7_isAhead 0 5 (xs [x_aload 0, x_get 8 9, x_iload 1]) := Snd.cons (snd_aload_n (i := 0) dX7_isAhead_0 rfl) (Snd.cons (snd_get (ci := 8) (k := 9) dX7_isAhead_1 rfl inX7 (by decide) tw_923) (Snd.cons (snd_iload_n (i := 1) dX7_isAhead_4 rfl) Snd.nil))
theorem bX7_isAhead_6_11 {l : Launch} {E : XE} : Snd l E mX7_isAhead 6 11 (xs [x_aload 0, x_get 8 9, x_iload 2]) := Snd.cons (snd_aload_n (i := 0) dX7_isAhead_6 rfl) (Snd.cons (snd_get (ci := 8) (k := 9) dX7_isAhead_7 rfl inX7 (by decide) tw_923) (Snd.cons (snd_iload_n (i := 2) dX7_isAhead_10 rfl) Snd.nil))
theorem bX7_isAhead_36_37 {l : Launch} {E : XE} : Snd l E mX7_isAhead 36 37 (xs [x_iload 1]) := Snd.cons (snd_iload_n (i := 1) dX7_isAhead_36 rfl) Snd.nil
theorem bX7_isAhead_40_41 {l : Launch} {E : XE} : Snd l E mX7_isAhead 40 41 (xs [x_iload 2]) := Snd.cons (snd_iload_n (i := 2) dX7_isAhead_40 rfl) Snd.nil
theorem bX7_isAhead_45_47 {l : Launch} {E : XE} : Snd l E mX7_isAhead 45 47 (xs [x_istore 3, x_iload 3]) := Snd.cons (snd_istore_n (i := 3) dX7_isAhead_45 rfl (by decide)) (Snd.cons (snd_iload_n (i := 3) dX7_isAhead_46 rfl) Snd.nil)
theorem bX7_isAhead_62_64 {l : Launch} {E : XE} : Snd l E mX7_isAhead 62 64 (xs [x_iload 1, x_iload 2]) := Snd.cons (snd_iload_n (i := 1) dX7_isAhead_62 rfl) (Snd.cons (snd_iload_n (i := 2) dX7_isAhead_63 rfl) Snd.nil)
theorem bX7_isAhead_71_72 {l : Launch} {E : XE} : Snd l E mX7_isAhead 71 72 (xs [x_push (.int (nI 0))]) := Snd.cons (snd_iconst (v := nI 0) dX7_isAhead_71 (by decide)) Snd.nil
theorem bX7_isAhead_67_72 {l : Launch} {E : XE} : Snd l E mX7_isAhead 67 72 (xs [x_push (.int (nI 1)), x_id]) := Snd.cons (snd_iconst (v := nI 1) dX7_isAhead_67 (by decide)) (Snd.cons (snd_goto (tgt := 72) dX7_isAhead_68 (by decide)) Snd.nil)
theorem bX7_isAhead_50_51 {l : Launch} {E : XE} : Snd l E mX7_isAhead 50 51 (xs [x_iload 3]) := Snd.cons (snd_iload_n (i := 3) dX7_isAhead_50 rfl) Snd.nil
theorem bX7_isAhead_58_72 {l : Launch} {E : XE} : Snd l E mX7_isAhead 58 72 (xs [x_push (.int (nI 0)), x_id]) := Snd.cons (snd_iconst (v := nI 0) dX7_isAhead_58 (by decide)) (Snd.cons (snd_goto (tgt := 72) dX7_isAhead_59 (by decide)) Snd.nil)
theorem bX7_isAhead_54_72 {l : Launch} {E : XE} : Snd l E mX7_isAhead 54 72 (xs [x_push (.int (nI 1)), x_id]) := Snd.cons (snd_iconst (v := nI 1) dX7_isAhead_54 (by decide)) (Snd.cons (snd_goto (tgt := 72) dX7_isAhead_55 (by decide)) Snd.nil)
theorem bX7_isAhead_15_20 {l : Launch} {E : XE} : Snd l E mX7_isAhead 15 20 (xs [x_aload 0, x_get 8 9, x_iload 1]) := Snd.cons (snd_aload_n (i := 0) dX7_isAhead_15 rfl) (Snd.cons (snd_get (ci := 8) (k := 9) dX7_isAhead_16 rfl inX7 (by decide) tw_923) (Snd.cons (snd_iload_n (i := 1) dX7_isAhead_19 rfl) Snd.nil))
theorem bX7_isAhead_21_26 {l : Launch} {E : XE} : Snd l E mX7_isAhead 21 26 (xs [x_aload 0, x_get 8 9, x_iload 2]) := Snd.cons (snd_aload_n (i := 0) dX7_isAhead_21 rfl) (Snd.cons (snd_get (ci := 8) (k := 9) dX7_isAhead_22 rfl inX7 (by decide) tw_923) (Snd.cons (snd_iload_n (i := 2) dX7_isAhead_25 rfl) Snd.nil))
theorem bX7_isAhead_34_35 {l : Launch} {E : XE} : Snd l E mX7_isAhead 34 35 (xs [x_push (.int (nI 0))]) := Snd.cons (snd_iconst (v := nI 0) dX7_isAhead_34 (by decide)) Snd.nil
theorem bX7_isAhead_30_35 {l : Launch} {E : XE} : Snd l E mX7_isAhead 30 35 (xs [x_push (.int (nI 1)), x_id]) := Snd.cons (snd_iconst (v := nI 1) dX7_isAhead_30 (by decide)) (Snd.cons (snd_goto (tgt := 35) dX7_isAhead_31 (by decide)) Snd.nil)
set_option maxHeartbeats 4000000 in
set_option maxRecDepth 100000 in
theorem m_X7_isAhead {l : Launch} {E : XE} (S : SaleN) (X : ModN) (K : Option (Nat → Nat)) (a b : Nat) (ha : a < 1024) (hb : b < 1024) (h1 : -1 ≤ X.wo a ∧ X.wo a ≤ 5000) (h2 : -1 ≤ X.wo b ∧ X.wo b ≤ 5000) : MetE l E mX7_isAhead (1) 0 0 [.ref 0, .int (nI (a)), .int (nI (b))] (modW 0 S X K) (fun r w' => r = some (.int (nI (b01 (aheadZ X.wo a b)))) ∧ w' = modW 0 S X K) := by
  refine MetE.of (by decide +kernel) (Nat.le_of_ble_eq_true rfl) ?_
  have hpa := pop_le a
  have hpb := pop_le b
  refine ev_eq (lv' := [(0, .ref 0), (1, .int (nI (a))), (2, .int (nI (b)))]) (st' := []) (w' := modW 0 S X K) rfl rfl rfl ?_
  refine ev_b bX7_isAhead_0_5 (lv' := [(0, .ref 0), (1, .int (nI (a))), (2, .int (nI (b)))]) (st' := [.int (nI (a)), .ref 8]) (w2 := modW 0 S X K) rfl ?_
  refine ev_iald_z (f := X.wo) dX7_isAhead_5 rfl (by omega) (by decide) ?_
  refine ev_b bX7_isAhead_6_11 (lv' := [(0, .ref 0), (1, .int (nI (a))), (2, .int (nI (b)))]) (st' := [.int (nI (b)), .ref 8, .int (zI (X.wo a))]) (w2 := modW 0 S X K) rfl ?_
  refine ev_iald_z (f := X.wo) dX7_isAhead_11 rfl (by omega) (by decide) ?_
  refine ev_icmp_eq_z (tgt := 36) (by constructor <;> omega) (by constructor <;> omega) dX7_isAhead_12 (by decide) (fun h12 => ?_) (fun h12 => ?_)
  · skip
    refine ev_b bX7_isAhead_36_37 (lv' := [(0, .ref 0), (1, .int (nI (a))), (2, .int (nI (b)))]) (st' := [.int (nI (a))]) (w2 := modW 0 S X K) rfl ?_
    refine ev_callS (Yc := mX7_size) [] dX7_isAhead_37 tw_1132 kX7_size (m_X7_size a ha) rfl (st := []) rfl (by decide) rfl (by decide) (Nat.le_of_ble_eq_true rfl) (Nat.le_refl _) (Nat.le_refl _) (fun r w' h => by obtain ⟨-, rfl⟩ := h; exact Nat.le_of_ble_eq_true rfl) ?_
    rintro _ _ ⟨rfl, rfl⟩
    refine ev_eq (lv' := [(0, .ref 0), (1, .int (nI (a))), (2, .int (nI (b)))]) (st' := [.int (nI (pop a))]) (w' := modW 0 S X K) rfl rfl rfl ?_
    refine ev_b bX7_isAhead_40_41 (lv' := [(0, .ref 0), (1, .int (nI (a))), (2, .int (nI (b)))]) (st' := [.int (nI (b)), .int (nI (pop a))]) (w2 := modW 0 S X K) rfl ?_
    refine ev_callS (Yc := mX7_size) [] dX7_isAhead_41 tw_1132 kX7_size (m_X7_size b hb) rfl (st := [.int (nI (pop a))]) rfl (by decide) rfl (by decide) (Nat.le_of_ble_eq_true rfl) (Nat.le_refl _) (Nat.le_refl _) (fun r w' h => by obtain ⟨-, rfl⟩ := h; exact Nat.le_of_ble_eq_true rfl) ?_
    rintro _ _ ⟨rfl, rfl⟩
    refine ev_eq (lv' := [(0, .ref 0), (1, .int (nI (a))), (2, .int (nI (b)))]) (st' := [.int (nI (pop b)), .int (nI (pop a))]) (w' := modW 0 S X K) rfl rfl rfl ?_
    refine ev_top (y := zI (((pop b : Nat) : Int))) (zI_nat _).symm ?_
    refine ev_top2 (y := zI (((pop a : Nat) : Int))) (zI_nat _).symm ?_
    refine ev_isub_z dX7_isAhead_44 ?_
    refine ev_b bX7_isAhead_45_47 (lv' := [(3, .int (zI ((((pop a : Nat) : Int)) - (((pop b : Nat) : Int))))), (0, .ref 0), (1, .int (nI (a))), (2, .int (nI (b)))]) (st' := [.int (zI ((((pop a : Nat) : Int)) - (((pop b : Nat) : Int))))]) (w2 := modW 0 S X K) rfl ?_
    refine ev_if_eq_z (tgt := 62) (by constructor <;> omega) dX7_isAhead_47 (by decide) (fun h47 => ?_) (fun h47 => ?_)
    · skip
      refine ev_b bX7_isAhead_62_64 (lv' := [(3, .int (zI ((((pop a : Nat) : Int)) - (((pop b : Nat) : Int))))), (0, .ref 0), (1, .int (nI (a))), (2, .int (nI (b)))]) (st' := [.int (nI (b)), .int (nI (a))]) (w2 := modW 0 S X K) rfl ?_
      refine ev_icmp_ge_n (tgt := 71) (by omega) (by omega) dX7_isAhead_64 (by decide) (fun h64 => ?_) (fun h64 => ?_)
      · skip
        refine ev_b bX7_isAhead_71_72 (lv' := [(3, .int (zI ((((pop a : Nat) : Int)) - (((pop b : Nat) : Int))))), (0, .ref 0), (1, .int (nI (a))), (2, .int (nI (b)))]) (st' := [.int (nI (0))]) (w2 := modW 0 S X K) rfl ?_
        exact ev_zret dX7_isAhead_72 rfl rfl mod_le (Nat.le_refl _) (Nat.le_refl _) ⟨(congrArg (fun t => some (Value.int (nI t))) (b01_f (by unfold aheadZ; omega)).symm), rfl⟩
      · skip
        refine ev_b bX7_isAhead_67_72 (lv' := [(3, .int (zI ((((pop a : Nat) : Int)) - (((pop b : Nat) : Int))))), (0, .ref 0), (1, .int (nI (a))), (2, .int (nI (b)))]) (st' := [.int (nI (1))]) (w2 := modW 0 S X K) rfl ?_
        exact ev_zret dX7_isAhead_72 rfl rfl mod_le (Nat.le_refl _) (Nat.le_refl _) ⟨(congrArg (fun t => some (Value.int (nI t))) (b01_t (by unfold aheadZ; omega)).symm), rfl⟩
    · skip
      refine ev_b bX7_isAhead_50_51 (lv' := [(3, .int (zI ((((pop a : Nat) : Int)) - (((pop b : Nat) : Int))))), (0, .ref 0), (1, .int (nI (a))), (2, .int (nI (b)))]) (st' := [.int (zI ((((pop a : Nat) : Int)) - (((pop b : Nat) : Int))))]) (w2 := modW 0 S X K) rfl ?_
      refine ev_if_ge_z (tgt := 58) (by constructor <;> omega) dX7_isAhead_51 (by decide) (fun h51 => ?_) (fun h51 => ?_)
      · skip
        refine ev_b bX7_isAhead_58_72 (lv' := [(3, .int (zI ((((pop a : Nat) : Int)) - (((pop b : Nat) : Int))))), (0, .ref 0), (1, .int (nI (a))), (2, .int (nI (b)))]) (st' := [.int (nI (0))]) (w2 := modW 0 S X K) rfl ?_
        exact ev_zret dX7_isAhead_72 rfl rfl mod_le (Nat.le_refl _) (Nat.le_refl _) ⟨(congrArg (fun t => some (Value.int (nI t))) (b01_f (by unfold aheadZ; omega)).symm), rfl⟩
      · skip
        refine ev_b bX7_isAhead_54_72 (lv' := [(3, .int (zI ((((pop a : Nat) : Int)) - (((pop b : Nat) : Int))))), (0, .ref 0), (1, .int (nI (a))), (2, .int (nI (b)))]) (st' := [.int (nI (1))]) (w2 := modW 0 S X K) rfl ?_
        exact ev_zret dX7_isAhead_72 rfl rfl mod_le (Nat.le_refl _) (Nat.le_refl _) ⟨(congrArg (fun t => some (Value.int (nI t))) (b01_t (by unfold aheadZ; omega)).symm), rfl⟩
  · skip
    refine ev_b bX7_isAhead_15_20 (lv' := [(0, .ref 0), (1, .int (nI (a))), (2, .int (nI (b)))]) (st' := [.int (nI (a)), .ref 8]) (w2 := modW 0 S X K) rfl ?_
    refine ev_iald_z (f := X.wo) dX7_isAhead_20 rfl (by omega) (by decide) ?_
    refine ev_b bX7_isAhead_21_26 (lv' := [(0, .ref 0), (1, .int (nI (a))), (2, .int (nI (b)))]) (st' := [.int (nI (b)), .ref 8, .int (zI (X.wo a))]) (w2 := modW 0 S X K) rfl ?_
    refine ev_iald_z (f := X.wo) dX7_isAhead_26 rfl (by omega) (by decide) ?_
    refine ev_icmp_le_z (tgt := 34) (by constructor <;> omega) (by constructor <;> omega) dX7_isAhead_27 (by decide) (fun h27 => ?_) (fun h27 => ?_)
    · skip
      refine ev_b bX7_isAhead_34_35 (lv' := [(0, .ref 0), (1, .int (nI (a))), (2, .int (nI (b)))]) (st' := [.int (nI (0))]) (w2 := modW 0 S X K) rfl ?_
      exact ev_zret dX7_isAhead_35 rfl rfl mod_le (Nat.le_refl _) (Nat.le_refl _) ⟨(congrArg (fun t => some (Value.int (nI t))) (b01_f (by unfold aheadZ; omega)).symm), rfl⟩
    · skip
      refine ev_b bX7_isAhead_30_35 (lv' := [(0, .ref 0), (1, .int (nI (a))), (2, .int (nI (b)))]) (st' := [.int (nI (1))]) (w2 := modW 0 S X K) rfl ?_
      exact ev_zret dX7_isAhead_35 rfl rfl mod_le (Nat.le_refl _) (Nat.le_refl _) ⟨(congrArg (fun t => some (Value.int (nI t))) (b01_t (by unfold aheadZ; omega)).symm), rfl⟩
