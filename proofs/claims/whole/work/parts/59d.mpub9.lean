theorem bX7_winners_52_53 {l : Launch} {E : XE} : Snd l E mX7_winners 52 53 (xs [x_aload 0]) := Snd.cons (snd_aload_n (i := 0) dX7_winners_52 rfl) Snd.nil
set_option maxHeartbeats 4000000 in
set_option maxRecDepth 100000 in
theorem q_winners_w3_n {l : Launch} {E : XE} (S : SaleN) (X : ModN)  (hS : SaleOK S) (hM : MOK S X)  : MetE l E mX7_winners (6) 2 40 [.ref 0, .int (nI (3))] (modW 0 S X none) (MP S (none) (X.lt) (X.ty) (X.rr) (X.rn) (X.rf) (some (.int (nI ((lookL S (ordN S S.ca) 0 (0, 0)).1))))) := by
  refine MetE.of (by decide +kernel) (Nat.le_of_ble_eq_true rfl) ?_
  have hca := hS.1
  have hpw := pow_ca hS
  have hac := ac_lt hS
  have hshl := shl_le hS
  
  refine ev_eq (lv' := [(0, .ref 0), (1, .int (nI (3)))]) (st' := []) (w' := modW 0 S X none) rfl rfl rfl ?_
  refine ev_b bX7_winners_0_1 (lv' := [(0, .ref 0), (1, .int (nI (3)))]) (st' := [.ref 0]) (w2 := modW 0 S X none) rfl ?_
  refine ev_callM (Yc := mX7_winnersNow) (st := []) dX7_winners_1 tw_1104 kX7_winnersNow (m_X7_winnersNow_g S S.kd S.fg X none hS (kf_self hM.1) hM.2) rfl rfl rfl rfl (by decide) (Nat.le_of_ble_eq_true rfl) (Nat.le_of_ble_eq_true rfl) (Nat.le_of_ble_eq_true rfl) (fun r w' h => by obtain ⟨-, wo, ta, ow, rfl, -⟩ := h; exact mod_eq) ?_
  rintro _ _ ⟨rfl, wo, ta, ow, rfl, hT⟩
  refine ev_eq (lv' := [(0, .ref 0), (1, .int (nI (3)))]) (st' := [.int (nI (winB S 1023))]) (w' := modW 0 S ((X.rf, wo, ta, ow, 0, X.sh, X.lt, X.ty, X.pl, X.nu, X.od, X.tt, X.oo, X.on, X.wn, X.pd, X.li, X.rr, X.rn, X.dr) : ModN) none) rfl rfl rfl ?_
  have hwb := winB_lt hS 1023
  refine ev_b bX7_winners_4_6 (lv' := [(2, .int (nI (winB S 1023))), (0, .ref 0), (1, .int (nI (3)))]) (st' := [.int (nI (3))]) (w2 := modW 0 S ((X.rf, wo, ta, ow, 0, X.sh, X.lt, X.ty, X.pl, X.nu, X.od, X.tt, X.oo, X.on, X.wn, X.pd, X.li, X.rr, X.rn, X.dr) : ModN) none) rfl ?_
  refine ev_tableIn (off := 46) (tgt := 52) dX7_winners_6 (by decide) (by decide) (by decide) (by decide) ?_
  refine ev_b bX7_winners_52_53 (lv' := [(2, .int (nI (winB S 1023))), (0, .ref 0), (1, .int (nI (3)))]) (st' := [.ref 0]) (w2 := modW 0 S ((X.rf, wo, ta, ow, 0, X.sh, X.lt, X.ty, X.pl, X.nu, X.od, X.tt, X.oo, X.on, X.wn, X.pd, X.li, X.rr, X.rn, X.dr) : ModN) none) rfl ?_
  refine ev_callMA (Yc := mX7_looked) (st := []) dX7_winners_53 tw_1179 kX7_looked (m_X7_looked_n S ((X.rf, wo, ta, ow, 0, X.sh, X.lt, X.ty, X.pl, X.nu, X.od, X.tt, X.oo, X.on, X.wn, X.pd, X.li, X.rr, X.rn, X.dr) : ModN) hS (mok_fresh hM.1 rfl hT)) rfl rfl rfl rfl rfl rfl (Nat.le_of_ble_eq_true rfl) (by decide) (Nat.le_of_ble_eq_true rfl) (by decide) (Nat.le_of_ble_eq_true rfl) (Nat.le_of_ble_eq_true rfl) ?_
  rintro _ _ ⟨rfl, wo2, ta2, ow2, oo, rfl, hT2⟩
  refine ev_eq (lv' := [(2, .int (nI (winB S 1023))), (0, .ref 0), (1, .int (nI (3)))]) (st' := [.int (nI ((lookL S (ordN S S.ca) 0 (0, 0)).1))]) (w' := modW 0 S ((X.rf, wo2, ta2, ow2, 0, X.sh, X.lt, X.ty, X.pl, X.nu, X.od, X.tt, oo, (ordN S S.ca).length, X.wn, X.pd, X.li, X.rr, X.rn, X.dr) : ModN) none) rfl rfl rfl ?_
  exact ev_iret dX7_winners_56 rfl mod_le (Nat.le_of_ble_eq_true rfl) (Nat.le_of_ble_eq_true rfl) ⟨rfl, _, rfl, mok_fresh hM.1 rfl hT2, rfl, rfl, rfl, rfl, rfl⟩
set_option maxHeartbeats 4000000 in
set_option maxRecDepth 100000 in
theorem q_winners_w3_s {l : Launch} {E : XE} (S : SaleN) (X : ModN) (kf : Nat → Nat)  (hS : SaleOK S) (hM : MOK S X)  : MetE l E mX7_winners (6) 2 40 [.ref 0, .int (nI (3))] (modW 0 S X (some kf)) (MP S (some kf) (X.lt) (X.ty) (X.rr) (X.rn) (X.rf) (some (.int (nI ((lookL S (ordN S S.ca) 0 (0, 0)).1))))) := by
  refine MetE.of (by decide +kernel) (Nat.le_of_ble_eq_true rfl) ?_
  have hca := hS.1
  have hpw := pow_ca hS
  have hac := ac_lt hS
  have hshl := shl_le hS
  
  refine ev_eq (lv' := [(0, .ref 0), (1, .int (nI (3)))]) (st' := []) (w' := modW 0 S X (some kf)) rfl rfl rfl ?_
  refine ev_b bX7_winners_0_1 (lv' := [(0, .ref 0), (1, .int (nI (3)))]) (st' := [.ref 0]) (w2 := modW 0 S X (some kf)) rfl ?_
  refine ev_callM (Yc := mX7_winnersNow) (st := []) dX7_winners_1 tw_1104 kX7_winnersNow (m_X7_winnersNow_g S S.kd S.fg X (some kf) hS (kf_self hM.1) hM.2) rfl rfl rfl rfl (by decide) (Nat.le_of_ble_eq_true rfl) (Nat.le_of_ble_eq_true rfl) (Nat.le_of_ble_eq_true rfl) (fun r w' h => by obtain ⟨-, wo, ta, ow, rfl, -⟩ := h; exact mod_eq) ?_
  rintro _ _ ⟨rfl, wo, ta, ow, rfl, hT⟩
  refine ev_eq (lv' := [(0, .ref 0), (1, .int (nI (3)))]) (st' := [.int (nI (winB S 1023))]) (w' := modW 0 S ((X.rf, wo, ta, ow, 0, X.sh, X.lt, X.ty, X.pl, X.nu, X.od, X.tt, X.oo, X.on, X.wn, X.pd, X.li, X.rr, X.rn, X.dr) : ModN) (some kf)) rfl rfl rfl ?_
  have hwb := winB_lt hS 1023
  refine ev_b bX7_winners_4_6 (lv' := [(2, .int (nI (winB S 1023))), (0, .ref 0), (1, .int (nI (3)))]) (st' := [.int (nI (3))]) (w2 := modW 0 S ((X.rf, wo, ta, ow, 0, X.sh, X.lt, X.ty, X.pl, X.nu, X.od, X.tt, X.oo, X.on, X.wn, X.pd, X.li, X.rr, X.rn, X.dr) : ModN) (some kf)) rfl ?_
  refine ev_tableIn (off := 46) (tgt := 52) dX7_winners_6 (by decide) (by decide) (by decide) (by decide) ?_
  refine ev_b bX7_winners_52_53 (lv' := [(2, .int (nI (winB S 1023))), (0, .ref 0), (1, .int (nI (3)))]) (st' := [.ref 0]) (w2 := modW 0 S ((X.rf, wo, ta, ow, 0, X.sh, X.lt, X.ty, X.pl, X.nu, X.od, X.tt, X.oo, X.on, X.wn, X.pd, X.li, X.rr, X.rn, X.dr) : ModN) (some kf)) rfl ?_
  refine ev_callMA (Yc := mX7_looked) (st := []) dX7_winners_53 tw_1179 kX7_looked (m_X7_looked_s S ((X.rf, wo, ta, ow, 0, X.sh, X.lt, X.ty, X.pl, X.nu, X.od, X.tt, X.oo, X.on, X.wn, X.pd, X.li, X.rr, X.rn, X.dr) : ModN) kf hS (mok_fresh hM.1 rfl hT)) rfl rfl rfl rfl rfl rfl (Nat.le_of_ble_eq_true rfl) (by decide) (Nat.le_of_ble_eq_true rfl) (by decide) (Nat.le_of_ble_eq_true rfl) (Nat.le_of_ble_eq_true rfl) ?_
  rintro _ _ ⟨rfl, wo2, ta2, ow2, oo, rfl, hT2⟩
  refine ev_eq (lv' := [(2, .int (nI (winB S 1023))), (0, .ref 0), (1, .int (nI (3)))]) (st' := [.int (nI ((lookL S (ordN S S.ca) 0 (0, 0)).1))]) (w' := modW 0 S ((X.rf, wo2, ta2, ow2, 0, X.sh, X.lt, X.ty, X.pl, X.nu, X.od, X.tt, oo, (ordN S S.ca).length, X.wn, X.pd, X.li, X.rr, X.rn, X.dr) : ModN) (some kf)) rfl rfl rfl ?_
  exact ev_iret dX7_winners_56 rfl mod_le (Nat.le_of_ble_eq_true rfl) (Nat.le_of_ble_eq_true rfl) ⟨rfl, _, rfl, mok_fresh hM.1 rfl hT2, rfl, rfl, rfl, rfl, rfl⟩
theorem kf_shill {S : SaleN} {b : Nat} (hb : b < 5) : KF (kindS S b 0 0) S.kd S.fg ((b : Nat) : Int) := ⟨by omega, fun j hj => by
  by_cases e : ((j : Nat) : Int) = ((b : Nat) : Int)
  · rw [if_pos e]
    have : j = b := by omega
    subst this
    exact up_at _ _ _
  · rw [if_neg e]
    have h : j ≠ b := fun z => e (by rw [z])
    exact ⟨up_ne h, up_ne h⟩⟩
theorem and_self_bit {x k : Nat} (h : x.testBit k = true) : x &&& 1 <<< k = 1 <<< k := by
  apply Nat.eq_of_testBit_eq
  intro i
  rw [Nat.testBit_and, Nat.one_shiftLeft, Nat.testBit_two_pow]
  by_cases e : k = i
  · subst e; simp [h]
  · simp [e]
theorem harm_bid {A : SaleN} {k : Nat} (hk : k < A.ca) (h : (winB A 1023).testBit k = true) : harmM A (1 <<< k) = ((winW A (andn 1023 (1 <<< k)) : Nat) : Int) - (((winW A 1023 : Nat) : Int) - ((A.pr k : Nat) : Int)) := by
  unfold harmM
  rw [and_self_bit h, prTo_one hk]
theorem bX7_gain_0_3 {l : Launch} {E : XE} : Snd l E mX7_gain 0 3 (xs [x_iload 1, x_push (.int (nI 0)), x_push (.int (nI 4))]) := Snd.cons (snd_iload_n (i := 1) dX7_gain_0 rfl) (Snd.cons (snd_iconst (v := nI 0) dX7_gain_1 (by decide)) (Snd.cons (snd_iconst (v := nI 4) dX7_gain_2 (by decide)) Snd.nil))
theorem bX7_gain_9_14 {l : Launch} {E : XE} : Snd l E mX7_gain 9 14 (xs [x_push (.int (-100000)), x_aload 0, x_push (.int (-1))]) := Snd.cons (snd_ldcw (v := -100000) dX7_gain_9 tw_1265) (Snd.cons (snd_aload_n (i := 0) dX7_gain_12 rfl) (Snd.cons (snd_iconst (v := -1) dX7_gain_13 (by decide)) Snd.nil))
theorem bX7_gain_17_18 {l : Launch} {E : XE} : Snd l E mX7_gain 17 18 (xs [x_i2 (fun x y => x + y)]) := Snd.cons (snd_iadd dX7_gain_17) Snd.nil
set_option maxHeartbeats 4000000 in
set_option maxRecDepth 100000 in
theorem q_gain_1 {l : Launch} {E : XE} (S : SaleN) (X : ModN) (K : Option (Nat → Nat)) (z1 : Int) (hS : SaleOK S) (hM : MOK S X) (rz1 : -2147483648 ≤ z1 ∧ z1 < 2147483648) (h : ¬ (0 ≤ z1 ∧ z1 < 5)) : MetE l E mX7_gain (1) 0 0 [.ref 0, .int (zI (z1))] (modW 0 S X K) (MP S K (X.lt) (X.ty) (X.rr) (X.rn) ((up X.rf 1 (X.rf 1 + 1))) (some (.int (-100001)))) := by
  refine MetE.of (by decide +kernel) (Nat.le_of_ble_eq_true rfl) ?_
  have hca := hS.1
  have hpw := pow_ca hS
  have hac := ac_lt hS
  have hshl := shl_le hS
  
  refine ev_eq (lv' := [(0, .ref 0), (1, .int (zI (z1)))]) (st' := []) (w' := modW 0 S X K) rfl rfl rfl ?_
  refine ev_b bX7_gain_0_3 (lv' := [(0, .ref 0), (1, .int (zI (z1)))]) (st' := [.int (nI (4)), .int (nI (0)), .int (zI (z1))]) (w2 := modW 0 S X K) rfl ?_
  refine ev_callS (Yc := mX7_isIn) [] dX7_gain_3 tw_1036 kX7_isIn (m_X7_isIn_z z1 0 4 rz1 (by decide) (by decide)) rfl (st := []) rfl (by decide) rfl (by decide) (Nat.le_of_ble_eq_true rfl) (Nat.le_refl _) (Nat.le_refl _) (fun r w' h => by obtain ⟨-, rfl⟩ := h; exact Nat.le_of_ble_eq_true rfl) ?_
  rintro _ _ ⟨rfl, rfl⟩
  refine ev_eq (lv' := [(0, .ref 0), (1, .int (zI (z1)))]) (st' := [.int (nI (b01 (((0 : Nat) : Int) ≤ z1 ∧ z1 ≤ ((4 : Nat) : Int))))]) (w' := modW 0 S X K) rfl rfl rfl ?_
  refine ev_ifne_b (tgt := 19) dX7_gain_6 (by decide) (fun h6 => (by exfalso; omega)) (fun h6 => ?_)
  refine ev_b bX7_gain_9_14 (lv' := [(0, .ref 0), (1, .int (zI (z1)))]) (st' := [.int (-1), .ref 0, .int (-100000)]) (w2 := modW 0 S X K) rfl ?_
  refine ev_callM (Yc := mX7_refuses) (st := [.int (-100000)]) dX7_gain_14 tw_1012 kX7_refuses (m_X7_refuses_1 S X K) rfl rfl rfl rfl (by decide) (Nat.le_of_ble_eq_true rfl) (Nat.le_refl _) (Nat.le_refl _) (fun r w' h => by obtain ⟨-, rfl⟩ := h; exact mod_eq) ?_
  rintro _ _ ⟨rfl, rfl⟩
  refine ev_eq (lv' := [(0, .ref 0), (1, .int (zI (z1)))]) (st' := [.int (-1), .int (-100000)]) (w' := modW 0 S (((up X.rf 1 (X.rf 1 + 1)), X.wo, X.ta, X.ow, X.sl, X.sh, X.lt, X.ty, X.pl, X.nu, X.od, X.tt, X.oo, X.on, X.wn, X.pd, X.li, X.rr, X.rn, X.dr) : ModN) K) rfl rfl rfl ?_
  refine ev_b bX7_gain_17_18 (lv' := [(0, .ref 0), (1, .int (zI (z1)))]) (st' := [.int ((-100000) + (-1))]) (w2 := modW 0 S (((up X.rf 1 (X.rf 1 + 1)), X.wo, X.ta, X.ow, X.sl, X.sh, X.lt, X.ty, X.pl, X.nu, X.od, X.tt, X.oo, X.on, X.wn, X.pd, X.li, X.rr, X.rn, X.dr) : ModN) K) rfl ?_
  exact ev_iret dX7_gain_18 rfl mod_le (Nat.le_refl _) (Nat.le_refl _) ⟨rfl, _, rfl, hM, rfl, rfl, rfl, rfl, rfl⟩
theorem bX7_gain_19_20 {l : Launch} {E : XE} : Snd l E mX7_gain 19 20 (xs [x_aload 0]) := Snd.cons (snd_aload_n (i := 0) dX7_gain_19 rfl) Snd.nil
theorem bX7_gain_23_28 {l : Launch} {E : XE} : Snd l E mX7_gain 23 28 (xs [x_aload 0, x_get 8 24, x_iload 1]) := Snd.cons (snd_aload_n (i := 0) dX7_gain_23 rfl) (Snd.cons (snd_get (ci := 8) (k := 24) dX7_gain_24 rfl inX7 (by decide) tw_938) (Snd.cons (snd_iload_n (i := 1) dX7_gain_27 rfl) Snd.nil))
theorem bX7_gain_29_34 {l : Launch} {E : XE} : Snd l E mX7_gain 29 34 (xs [x_aload 0, x_get 8 25, x_iload 1]) := Snd.cons (snd_aload_n (i := 0) dX7_gain_29 rfl) (Snd.cons (snd_get (ci := 8) (k := 25) dX7_gain_30 rfl inX7 (by decide) tw_939) (Snd.cons (snd_iload_n (i := 1) dX7_gain_33 rfl) Snd.nil))
theorem bX7_gain_36_42 {l : Launch} {E : XE} : Snd l E mX7_gain 36 42 (xs [x_istore 2, x_aload 0, x_get 8 11, x_iload 1]) := Snd.cons (snd_istore_n (i := 2) dX7_gain_36 rfl (by decide)) (Snd.cons (snd_aload_n (i := 0) dX7_gain_37 rfl) (Snd.cons (snd_get (ci := 8) (k := 11) dX7_gain_38 rfl inX7 (by decide) tw_925) (Snd.cons (snd_iload_n (i := 1) dX7_gain_41 rfl) Snd.nil)))
theorem bX7_gain_43_46 {l : Launch} {E : XE} : Snd l E mX7_gain 43 46 (xs [x_istore 3, x_aload 0, x_iload 1]) := Snd.cons (snd_istore_n (i := 3) dX7_gain_43 rfl (by decide)) (Snd.cons (snd_aload_n (i := 0) dX7_gain_44 rfl) (Snd.cons (snd_iload_n (i := 1) dX7_gain_45 rfl) Snd.nil))
theorem bX7_gain_46_51 {l : Launch} {E : XE} : Snd l E mX7_gain 46 51 (xs [x_puti 8 13, x_aload 0, x_push (.int (nI 1))]) := Snd.cons (snd_puti (ci := 8) (k := 13) dX7_gain_46 rfl inX7 tyX7_ok nmX7 (by decide) tw_927 rfl rfl) (Snd.cons (snd_aload_n (i := 0) dX7_gain_49 rfl) (Snd.cons (snd_iconst (v := nI 1) dX7_gain_50 (by decide)) Snd.nil))
theorem bX7_gain_54_55 {l : Launch} {E : XE} : Snd l E mX7_gain 54 55 (xs [x_aload 0]) := Snd.cons (snd_aload_n (i := 0) dX7_gain_54 rfl) Snd.nil
theorem bX7_gain_58_66 {l : Launch} {E : XE} : Snd l E mX7_gain 58 66 (xs [x_istore 4, x_push (.int (nI 0)), x_istore 5, x_push (.int (nI 0)), x_istore 6]) := Snd.cons (snd_istore dX7_gain_58 (by decide)) (Snd.cons (snd_iconst (v := nI 0) dX7_gain_60 (by decide)) (Snd.cons (snd_istore dX7_gain_61 (by decide)) (Snd.cons (snd_iconst (v := nI 0) dX7_gain_63 (by decide)) (Snd.cons (snd_istore dX7_gain_64 (by decide)) Snd.nil))))
theorem bX7_gain_66_72 {l : Launch} {E : XE} : Snd l E mX7_gain 66 72 (xs [x_iload 6, x_aload 0, x_get 8 6]) := Snd.cons (snd_iload dX7_gain_66) (Snd.cons (snd_aload_n (i := 0) dX7_gain_68 rfl) (Snd.cons (snd_get (ci := 8) (k := 6) dX7_gain_69 rfl inX7 (by decide) tw_920) Snd.nil))
theorem bX7_gain_114_117 {l : Launch} {E : XE} : Snd l E mX7_gain 114 117 (xs [x_aload 0, x_push (.int (-9))]) := Snd.cons (snd_aload_n (i := 0) dX7_gain_114 rfl) (Snd.cons (snd_bipush (v := -9) dX7_gain_115 (by decide)) Snd.nil)
theorem bX7_gain_117_122 {l : Launch} {E : XE} : Snd l E mX7_gain 117 122 (xs [x_puti 8 13, x_aload 0, x_push (.int (nI 1))]) := Snd.cons (snd_puti (ci := 8) (k := 13) dX7_gain_117 rfl inX7 tyX7_ok nmX7 (by decide) tw_927 rfl rfl) (Snd.cons (snd_aload_n (i := 0) dX7_gain_120 rfl) (Snd.cons (snd_iconst (v := nI 1) dX7_gain_121 (by decide)) Snd.nil))
theorem bX7_gain_125_128 {l : Launch} {E : XE} : Snd l E mX7_gain 125 128 (xs [x_iload 5, x_iload 2]) := Snd.cons (snd_iload dX7_gain_125) (Snd.cons (snd_iload_n (i := 2) dX7_gain_127 rfl) Snd.nil)
theorem bX7_gain_75_78 {l : Launch} {E : XE} : Snd l E mX7_gain 75 78 (xs [x_iload 4, x_iload 3]) := Snd.cons (snd_iload dX7_gain_75) (Snd.cons (snd_iload_n (i := 3) dX7_gain_77 rfl) Snd.nil)
theorem bX7_gain_79_81 {l : Launch} {E : XE} : Snd l E mX7_gain 79 81 (xs [x_iload 6]) := Snd.cons (snd_iload dX7_gain_79) Snd.nil
theorem bX7_gain_111_66 {l : Launch} {E : XE} : Snd l E mX7_gain 111 66 (xs [x_id]) := Snd.cons (snd_goto (tgt := 66) dX7_gain_111 (by decide)) Snd.nil
theorem bX7_gain_87_95 {l : Launch} {E : XE} : Snd l E mX7_gain 87 95 (xs [x_iload 5, x_aload 0, x_get 8 5, x_iload 6]) := Snd.cons (snd_iload dX7_gain_87) (Snd.cons (snd_aload_n (i := 0) dX7_gain_89 rfl) (Snd.cons (snd_get (ci := 8) (k := 5) dX7_gain_90 rfl inX7 (by decide) tw_919) (Snd.cons (snd_iload dX7_gain_93) Snd.nil)))
theorem bX7_gain_96_100 {l : Launch} {E : XE} : Snd l E mX7_gain 96 100 (xs [x_aload 0, x_push (.int (nI 1)), x_iload 6]) := Snd.cons (snd_aload_n (i := 0) dX7_gain_96 rfl) (Snd.cons (snd_iconst (v := nI 1) dX7_gain_97 (by decide)) (Snd.cons (snd_iload dX7_gain_98) Snd.nil))
theorem bX7_gain_106_108 {l : Launch} {E : XE} : Snd l E mX7_gain 106 108 (xs [x_istore 5]) := Snd.cons (snd_istore dX7_gain_106 (by decide)) Snd.nil
set_option maxHeartbeats 4000000 in
set_option maxRecDepth 100000 in
theorem q_gain_ok {l : Launch} {E : XE} (S : SaleN) (X : ModN) (K : Option (Nat → Nat)) (b : Nat) (hS : SaleOK S) (hM : MOK S X) (hb : b < 5) : MetE l E mX7_gain (7) 0 0 [.ref 0, .int (nI (b))] (modW 0 S X K) (MP S K (X.lt) (X.ty) (X.rr) (X.rn) (X.rf) (some (.int (zI (shZ (kindS S b 0 0) (winB (kindS S b 0 0) 1023 &&& bgTo S.ow (1 <<< b) 5) S.ca - (wonZ S b - paidZ S b)))))) := by
  refine MetE.of (by decide +kernel) (Nat.le_of_ble_eq_true rfl) ?_
  have hca := hS.1
  have hpw := pow_ca hS
  have hac := ac_lt hS
  have hshl := shl_le hS
  have hU : SaleOK (kindS S b 0 0) := kind_ok hS (by decide) (by decide)
  have hW : (winB (kindS S b 0 0) 1023 &&& bgTo S.ow (1 <<< b) 5) < 2147483648 := Nat.lt_of_le_of_lt Nat.and_le_right (Nat.lt_trans (bgS_lt hS _) (by decide))
  refine ev_eq (lv' := [(0, .ref 0), (1, .int (nI (b)))]) (st' := []) (w' := modW 0 S X K) rfl rfl rfl ?_
  refine ev_b bX7_gain_0_3 (lv' := [(0, .ref 0), (1, .int (nI (b)))]) (st' := [.int (nI (4)), .int (nI (0)), .int (nI (b))]) (w2 := modW 0 S X K) rfl ?_
  refine ev_callS (Yc := mX7_isIn) [] dX7_gain_3 tw_1036 kX7_isIn (m_X7_isIn_n b 0 4 (by omega) (by decide) (by decide)) rfl (st := []) rfl (by decide) rfl (by decide) (Nat.le_of_ble_eq_true rfl) (Nat.le_refl _) (Nat.le_refl _) (fun r w' h => by obtain ⟨-, rfl⟩ := h; exact Nat.le_of_ble_eq_true rfl) ?_
  rintro _ _ ⟨rfl, rfl⟩
  refine ev_eq (lv' := [(0, .ref 0), (1, .int (nI (b)))]) (st' := [.int (nI (b01 (0 ≤ b ∧ b ≤ 4)))]) (w' := modW 0 S X K) rfl rfl rfl ?_
  refine ev_ifne_b (tgt := 19) dX7_gain_6 (by decide) (fun h6 => ?_) (fun h6 => (by exfalso; omega))
  refine ev_b bX7_gain_19_20 (lv' := [(0, .ref 0), (1, .int (nI (b)))]) (st' := [.ref 0]) (w2 := modW 0 S X K) rfl ?_
  refine ev_callM (Yc := mX7_findHarm) (st := []) dX7_gain_20 tw_1224 kX7_findHarm (m_X7_findHarm S X K hS hM) rfl rfl rfl rfl (by decide) (Nat.le_of_ble_eq_true rfl) (Nat.le_refl _) (Nat.le_refl _) (fun r w' h => by obtain ⟨-, wo, ta, rfl, -⟩ := h; exact mod_eq) ?_
  rintro _ _ ⟨rfl, wo, ta, rfl, hT⟩
  refine ev_eq (lv' := [(0, .ref 0), (1, .int (nI (b)))]) (st' := []) (w' := modW 0 S ((X.rf, wo, ta, (owF S), 0, X.sh, X.lt, X.ty, X.pl, X.nu, X.od, X.tt, X.oo, X.on, (wonZ S), (paidZ S), X.li, X.rr, X.rn, X.dr) : ModN) K) rfl rfl rfl ?_
  refine ev_b bX7_gain_23_28 (lv' := [(0, .ref 0), (1, .int (nI (b)))]) (st' := [.int (nI (b)), .ref 16]) (w2 := modW 0 S ((X.rf, wo, ta, (owF S), 0, X.sh, X.lt, X.ty, X.pl, X.nu, X.od, X.tt, X.oo, X.on, (wonZ S), (paidZ S), X.li, X.rr, X.rn, X.dr) : ModN) K) rfl ?_
  refine ev_iald_z (f := (wonZ S)) dX7_gain_28 rfl (by omega) (by decide) ?_
  refine ev_b bX7_gain_29_34 (lv' := [(0, .ref 0), (1, .int (nI (b)))]) (st' := [.int (nI (b)), .ref 17, .int (zI (((wonZ S)) b))]) (w2 := modW 0 S ((X.rf, wo, ta, (owF S), 0, X.sh, X.lt, X.ty, X.pl, X.nu, X.od, X.tt, X.oo, X.on, (wonZ S), (paidZ S), X.li, X.rr, X.rn, X.dr) : ModN) K) rfl ?_
  refine ev_iald_z (f := (paidZ S)) dX7_gain_34 rfl (by omega) (by decide) ?_
  refine ev_isub_z dX7_gain_35 ?_
  refine ev_b bX7_gain_36_42 (lv' := [(2, .int (zI ((((wonZ S)) b) - (((paidZ S)) b)))), (0, .ref 0), (1, .int (nI (b)))]) (st' := [.int (nI (b)), .ref 10]) (w2 := modW 0 S ((X.rf, wo, ta, (owF S), 0, X.sh, X.lt, X.ty, X.pl, X.nu, X.od, X.tt, X.oo, X.on, (wonZ S), (paidZ S), X.li, X.rr, X.rn, X.dr) : ModN) K) rfl ?_
  refine ev_iald_n (f := (owF S)) dX7_gain_42 rfl (by omega) (by decide) ?_
  refine ev_top (y := (nI (bgTo S.ow (1 <<< b) 5))) (congrArg nI (show ((owF S)) b = bgTo S.ow (1 <<< b) 5 from by exact ow_one hS hb)) ?_
  refine ev_b bX7_gain_43_46 (lv' := [(3, .int (nI (bgTo S.ow (1 <<< b) 5))), (2, .int (zI ((((wonZ S)) b) - (((paidZ S)) b)))), (0, .ref 0), (1, .int (nI (b)))]) (st' := [.int (nI (b)), .ref 0]) (w2 := modW 0 S ((X.rf, wo, ta, (owF S), 0, X.sh, X.lt, X.ty, X.pl, X.nu, X.od, X.tt, X.oo, X.on, (wonZ S), (paidZ S), X.li, X.rr, X.rn, X.dr) : ModN) K) rfl ?_
  refine ev_top (y := zI (((b : Nat) : Int))) (zI_nat _).symm ?_
  refine ev_b bX7_gain_46_51 (lv' := [(3, .int (nI (bgTo S.ow (1 <<< b) 5))), (2, .int (zI ((((wonZ S)) b) - (((paidZ S)) b)))), (0, .ref 0), (1, .int (nI (b)))]) (st' := [.int (nI (1)), .ref 0]) (w2 := modW 0 S ((X.rf, wo, ta, (owF S), 0, ((b : Nat) : Int), X.lt, X.ty, X.pl, X.nu, X.od, X.tt, X.oo, X.on, (wonZ S), (paidZ S), X.li, X.rr, X.rn, X.dr) : ModN) K) rfl ?_
  refine snd_put (ci := 8) (k := 12) (a := 0) dX7_gain_51 rfl inX7 tyX7_ok nmX7 (by decide) tw_926 rfl rfl (Nat.le_of_ble_eq_true rfl) (fun _ => rfl) (fun _ => rfl) ?_
  refine ev_eq (w' := modW 0 S ((X.rf, wo, ta, (owF S), 1, ((b : Nat) : Int), X.lt, X.ty, X.pl, X.nu, X.od, X.tt, X.oo, X.on, (wonZ S), (paidZ S), X.li, X.rr, X.rn, X.dr) : ModN) K) rfl rfl rfl ?_
  refine ev_b bX7_gain_54_55 (lv' := [(3, .int (nI (bgTo S.ow (1 <<< b) 5))), (2, .int (zI ((((wonZ S)) b) - (((paidZ S)) b)))), (0, .ref 0), (1, .int (nI (b)))]) (st' := [.ref 0]) (w2 := modW 0 S ((X.rf, wo, ta, (owF S), 1, ((b : Nat) : Int), X.lt, X.ty, X.pl, X.nu, X.od, X.tt, X.oo, X.on, (wonZ S), (paidZ S), X.li, X.rr, X.rn, X.dr) : ModN) K) rfl ?_
  refine ev_callM (Yc := mX7_winnersNow) (st := []) dX7_gain_55 tw_1104 kX7_winnersNow (m_X7_winnersNow_g (kindS S b 0 0) S.kd S.fg ((X.rf, wo, ta, (owF S), 1, ((b : Nat) : Int), X.lt, X.ty, X.pl, X.nu, X.od, X.tt, X.oo, X.on, (wonZ S), (paidZ S), X.li, X.rr, X.rn, X.dr) : ModN) K hU (kf_shill hb) (cch_stale rfl)) rfl rfl rfl rfl (by decide) (Nat.le_of_ble_eq_true rfl) (Nat.le_refl _) (Nat.le_refl _) (fun r w' h => by obtain ⟨-, wo, ta, ow, rfl, -⟩ := h; exact mod_eq) ?_
  rintro _ _ ⟨rfl, wo2, ta2, ow2, rfl, hT2⟩
  refine ev_eq (lv' := [(3, .int (nI (bgTo S.ow (1 <<< b) 5))), (2, .int (zI ((((wonZ S)) b) - (((paidZ S)) b)))), (0, .ref 0), (1, .int (nI (b)))]) (st' := [.int (nI (winB (kindS S b 0 0) 1023))]) (w' := modW 0 S ((X.rf, wo2, ta2, ow2, 0, ((b : Nat) : Int), X.lt, X.ty, X.pl, X.nu, X.od, X.tt, X.oo, X.on, (wonZ S), (paidZ S), X.li, X.rr, X.rn, X.dr) : ModN) K) rfl rfl rfl ?_
  have hwb := winB_lt hU 1023
  refine ev_b bX7_gain_58_66 (lv' := [(6, .int (nI (0))), (5, .int (nI (0))), (4, .int (nI (winB (kindS S b 0 0) 1023))), (3, .int (nI (bgTo S.ow (1 <<< b) 5))), (2, .int (zI ((((wonZ S)) b) - (((paidZ S)) b)))), (0, .ref 0), (1, .int (nI (b)))]) (st' := []) (w2 := modW 0 S ((X.rf, wo2, ta2, ow2, 0, ((b : Nat) : Int), X.lt, X.ty, X.pl, X.nu, X.od, X.tt, X.oo, X.on, (wonZ S), (paidZ S), X.li, X.rr, X.rn, X.dr) : ModN) K) rfl ?_
  have L66 : ∀ (j_ k : Nat), k + j_ = S.ca → Ev l E mX7_gain (7) 0 0 (modW 0 S X K) (MP S K (X.lt) (X.ty) (X.rr) (X.rn) (X.rf) (some (.int (zI (shZ (kindS S b 0 0) (winB (kindS S b 0 0) 1023 &&& bgTo S.ow (1 <<< b) 5) S.ca - (wonZ S b - paidZ S b)))))) 0 0 66 [(6, .int (nI (k))), (5, .int (zI (shZ (kindS S b 0 0) (winB (kindS S b 0 0) 1023 &&& bgTo S.ow (1 <<< b) 5) k))), (0, .ref 0), (1, .int (nI (b))), (2, .int (zI ((((wonZ S)) b) - (((paidZ S)) b)))), (3, .int (nI (bgTo S.ow (1 <<< b) 5))), (4, .int (nI (winB (kindS S b 0 0) 1023)))] [] (modW 0 S ((X.rf, wo2, ta2, ow2, 0, ((b : Nat) : Int), X.lt, X.ty, X.pl, X.nu, X.od, X.tt, X.oo, X.on, (wonZ S), (paidZ S), X.li, X.rr, X.rn, X.dr) : ModN) K) := by
    intro j_
    induction j_ with
    | zero =>
      intro k hk66  
      replace hk66 : k = S.ca := hk66
      subst hk66
      refine ev_b bX7_gain_66_72 (lv' := [(6, .int (nI (S.ca))), (5, .int (zI (shZ (kindS S b 0 0) (winB (kindS S b 0 0) 1023 &&& bgTo S.ow (1 <<< b) 5) S.ca))), (0, .ref 0), (1, .int (nI (b))), (2, .int (zI ((((wonZ S)) b) - (((paidZ S)) b)))), (3, .int (nI (bgTo S.ow (1 <<< b) 5))), (4, .int (nI (winB (kindS S b 0 0) 1023)))]) (st' := [.int (nI (S.ca)), .int (nI (S.ca))]) (w2 := modW 0 S ((X.rf, wo2, ta2, ow2, 0, ((b : Nat) : Int), X.lt, X.ty, X.pl, X.nu, X.od, X.tt, X.oo, X.on, (wonZ S), (paidZ S), X.li, X.rr, X.rn, X.dr) : ModN) K) rfl ?_
      refine ev_icmp_ge_n (tgt := 114) (by omega) (by omega) dX7_gain_72 (by decide) (fun h72 => ?_) (fun h72 => (by exfalso; omega))
      refine ev_b bX7_gain_114_117 (lv' := [(6, .int (nI (S.ca))), (5, .int (zI (shZ (kindS S b 0 0) (winB (kindS S b 0 0) 1023 &&& bgTo S.ow (1 <<< b) 5) S.ca))), (0, .ref 0), (1, .int (nI (b))), (2, .int (zI ((((wonZ S)) b) - (((paidZ S)) b)))), (3, .int (nI (bgTo S.ow (1 <<< b) 5))), (4, .int (nI (winB (kindS S b 0 0) 1023)))]) (st' := [.int (-9), .ref 0]) (w2 := modW 0 S ((X.rf, wo2, ta2, ow2, 0, ((b : Nat) : Int), X.lt, X.ty, X.pl, X.nu, X.od, X.tt, X.oo, X.on, (wonZ S), (paidZ S), X.li, X.rr, X.rn, X.dr) : ModN) K) rfl ?_
      refine ev_top (y := zI (-9)) (by decide) ?_
      refine ev_b bX7_gain_117_122 (lv' := [(6, .int (nI (S.ca))), (5, .int (zI (shZ (kindS S b 0 0) (winB (kindS S b 0 0) 1023 &&& bgTo S.ow (1 <<< b) 5) S.ca))), (0, .ref 0), (1, .int (nI (b))), (2, .int (zI ((((wonZ S)) b) - (((paidZ S)) b)))), (3, .int (nI (bgTo S.ow (1 <<< b) 5))), (4, .int (nI (winB (kindS S b 0 0) 1023)))]) (st' := [.int (nI (1)), .ref 0]) (w2 := modW 0 S ((X.rf, wo2, ta2, ow2, 0, -9, X.lt, X.ty, X.pl, X.nu, X.od, X.tt, X.oo, X.on, (wonZ S), (paidZ S), X.li, X.rr, X.rn, X.dr) : ModN) K) rfl ?_
      refine snd_put (ci := 8) (k := 12) (a := 0) dX7_gain_122 rfl inX7 tyX7_ok nmX7 (by decide) tw_926 rfl rfl (Nat.le_of_ble_eq_true rfl) (fun _ => rfl) (fun _ => rfl) ?_
      refine ev_eq (w' := modW 0 S ((X.rf, wo2, ta2, ow2, 1, -9, X.lt, X.ty, X.pl, X.nu, X.od, X.tt, X.oo, X.on, (wonZ S), (paidZ S), X.li, X.rr, X.rn, X.dr) : ModN) K) rfl rfl rfl ?_
      refine ev_b bX7_gain_125_128 (lv' := [(6, .int (nI (S.ca))), (5, .int (zI (shZ (kindS S b 0 0) (winB (kindS S b 0 0) 1023 &&& bgTo S.ow (1 <<< b) 5) S.ca))), (0, .ref 0), (1, .int (nI (b))), (2, .int (zI ((((wonZ S)) b) - (((paidZ S)) b)))), (3, .int (nI (bgTo S.ow (1 <<< b) 5))), (4, .int (nI (winB (kindS S b 0 0) 1023)))]) (st' := [.int (zI ((((wonZ S)) b) - (((paidZ S)) b))), .int (zI (shZ (kindS S b 0 0) (winB (kindS S b 0 0) 1023 &&& bgTo S.ow (1 <<< b) 5) S.ca))]) (w2 := modW 0 S ((X.rf, wo2, ta2, ow2, 1, -9, X.lt, X.ty, X.pl, X.nu, X.od, X.tt, X.oo, X.on, (wonZ S), (paidZ S), X.li, X.rr, X.rn, X.dr) : ModN) K) rfl ?_
      refine ev_isub_z dX7_gain_128 ?_
      exact ev_iret dX7_gain_129 rfl mod_le (Nat.le_refl _) (Nat.le_refl _) ⟨rfl, _, rfl, mok_stale rfl rfl, rfl, rfl, rfl, rfl, rfl⟩
    | succ j_ ih66 =>
      intro k hk66  
      have hlt66 : k < S.ca := by omega
      refine ev_b bX7_gain_66_72 (lv' := [(6, .int (nI (k))), (5, .int (zI (shZ (kindS S b 0 0) (winB (kindS S b 0 0) 1023 &&& bgTo S.ow (1 <<< b) 5) k))), (0, .ref 0), (1, .int (nI (b))), (2, .int (zI ((((wonZ S)) b) - (((paidZ S)) b)))), (3, .int (nI (bgTo S.ow (1 <<< b) 5))), (4, .int (nI (winB (kindS S b 0 0) 1023)))]) (st' := [.int (nI (S.ca)), .int (nI (k))]) (w2 := modW 0 S ((X.rf, wo2, ta2, ow2, 0, ((b : Nat) : Int), X.lt, X.ty, X.pl, X.nu, X.od, X.tt, X.oo, X.on, (wonZ S), (paidZ S), X.li, X.rr, X.rn, X.dr) : ModN) K) rfl ?_
      refine ev_icmp_ge_n (tgt := 114) (by omega) (by omega) dX7_gain_72 (by decide) (fun h72 => (by exfalso; omega)) (fun h72 => ?_)
      refine ev_b bX7_gain_75_78 (lv' := [(6, .int (nI (k))), (5, .int (zI (shZ (kindS S b 0 0) (winB (kindS S b 0 0) 1023 &&& bgTo S.ow (1 <<< b) 5) k))), (0, .ref 0), (1, .int (nI (b))), (2, .int (zI ((((wonZ S)) b) - (((paidZ S)) b)))), (3, .int (nI (bgTo S.ow (1 <<< b) 5))), (4, .int (nI (winB (kindS S b 0 0) 1023)))]) (st' := [.int (nI (bgTo S.ow (1 <<< b) 5)), .int (nI (winB (kindS S b 0 0) 1023))]) (w2 := modW 0 S ((X.rf, wo2, ta2, ow2, 0, ((b : Nat) : Int), X.lt, X.ty, X.pl, X.nu, X.od, X.tt, X.oo, X.on, (wonZ S), (paidZ S), X.li, X.rr, X.rn, X.dr) : ModN) K) rfl ?_
      refine ev_iand_n dX7_gain_78 ?_
      refine ev_b bX7_gain_79_81 (lv' := [(6, .int (nI (k))), (5, .int (zI (shZ (kindS S b 0 0) (winB (kindS S b 0 0) 1023 &&& bgTo S.ow (1 <<< b) 5) k))), (0, .ref 0), (1, .int (nI (b))), (2, .int (zI ((((wonZ S)) b) - (((paidZ S)) b)))), (3, .int (nI (bgTo S.ow (1 <<< b) 5))), (4, .int (nI (winB (kindS S b 0 0) 1023)))]) (st' := [.int (nI (k)), .int (nI ((winB (kindS S b 0 0) 1023) &&& (bgTo S.ow (1 <<< b) 5)))]) (w2 := modW 0 S ((X.rf, wo2, ta2, ow2, 0, ((b : Nat) : Int), X.lt, X.ty, X.pl, X.nu, X.od, X.tt, X.oo, X.on, (wonZ S), (paidZ S), X.li, X.rr, X.rn, X.dr) : ModN) K) rfl ?_
      refine ev_callS (Yc := mX7_has) [] dX7_gain_81 tw_1057 kX7_has (m_X7_has (winB (kindS S b 0 0) 1023 &&& bgTo S.ow (1 <<< b) 5) k hW (by omega)) rfl (st := []) rfl (by decide) rfl (by decide) (Nat.le_of_ble_eq_true rfl) (Nat.le_refl _) (Nat.le_refl _) (fun r w' h => by obtain ⟨-, rfl⟩ := h; exact Nat.le_of_ble_eq_true rfl) ?_
      rintro _ _ ⟨rfl, rfl⟩
      refine ev_eq (lv' := [(6, .int (nI (k))), (5, .int (zI (shZ (kindS S b 0 0) (winB (kindS S b 0 0) 1023 &&& bgTo S.ow (1 <<< b) 5) k))), (0, .ref 0), (1, .int (nI (b))), (2, .int (zI ((((wonZ S)) b) - (((paidZ S)) b)))), (3, .int (nI (bgTo S.ow (1 <<< b) 5))), (4, .int (nI (winB (kindS S b 0 0) 1023)))]) (st' := [.int (nI (b01 ((winB (kindS S b 0 0) 1023 &&& bgTo S.ow (1 <<< b) 5).testBit k = true)))]) (w' := modW 0 S ((X.rf, wo2, ta2, ow2, 0, ((b : Nat) : Int), X.lt, X.ty, X.pl, X.nu, X.od, X.tt, X.oo, X.on, (wonZ S), (paidZ S), X.li, X.rr, X.rn, X.dr) : ModN) K) rfl rfl rfl ?_
      refine ev_ifeq_b (tgt := 108) dX7_gain_84 (by decide) (fun h84 => ?_) (fun h84 => ?_)
      · skip
        refine ev_iinc_n (x := k) (v := 1) dX7_gain_108 rfl (by decide) ?_
        refine ev_eq (lv' := [(6, .int (nI (k + 1))), (5, .int (zI (shZ (kindS S b 0 0) (winB (kindS S b 0 0) 1023 &&& bgTo S.ow (1 <<< b) 5) k))), (0, .ref 0), (1, .int (nI (b))), (2, .int (zI ((((wonZ S)) b) - (((paidZ S)) b)))), (3, .int (nI (bgTo S.ow (1 <<< b) 5))), (4, .int (nI (winB (kindS S b 0 0) 1023)))]) rfl rfl rfl ?_
        refine ev_b bX7_gain_111_66 (lv' := [(6, .int (nI (k + 1))), (5, .int (zI (shZ (kindS S b 0 0) (winB (kindS S b 0 0) 1023 &&& bgTo S.ow (1 <<< b) 5) k))), (0, .ref 0), (1, .int (nI (b))), (2, .int (zI ((((wonZ S)) b) - (((paidZ S)) b)))), (3, .int (nI (bgTo S.ow (1 <<< b) 5))), (4, .int (nI (winB (kindS S b 0 0) 1023)))]) (st' := []) (w2 := modW 0 S ((X.rf, wo2, ta2, ow2, 0, ((b : Nat) : Int), X.lt, X.ty, X.pl, X.nu, X.od, X.tt, X.oo, X.on, (wonZ S), (paidZ S), X.li, X.rr, X.rn, X.dr) : ModN) K) rfl ?_
        rw [show nI (k + 1) = nI ((k + 1)) from congrArg nI (by omega)]
        rw [show zI (shZ (kindS S b 0 0) (winB (kindS S b 0 0) 1023 &&& bgTo S.ow (1 <<< b) 5) k) = zI (shZ (kindS S b 0 0) (winB (kindS S b 0 0) 1023 &&& bgTo S.ow (1 <<< b) 5) (k + 1)) from congrArg zI (by rw [shZ_s]; first | rw [if_neg h84] | (rw [if_pos h84]; rfl))]
        exact ih66 (k + 1) (by omega) 
      · skip
        refine ev_b bX7_gain_87_95 (lv' := [(6, .int (nI (k))), (5, .int (zI (shZ (kindS S b 0 0) (winB (kindS S b 0 0) 1023 &&& bgTo S.ow (1 <<< b) 5) k))), (0, .ref 0), (1, .int (nI (b))), (2, .int (zI ((((wonZ S)) b) - (((paidZ S)) b)))), (3, .int (nI (bgTo S.ow (1 <<< b) 5))), (4, .int (nI (winB (kindS S b 0 0) 1023)))]) (st' := [.int (nI (k)), .ref 6, .int (zI (shZ (kindS S b 0 0) (winB (kindS S b 0 0) 1023 &&& bgTo S.ow (1 <<< b) 5) k))]) (w2 := modW 0 S ((X.rf, wo2, ta2, ow2, 0, ((b : Nat) : Int), X.lt, X.ty, X.pl, X.nu, X.od, X.tt, X.oo, X.on, (wonZ S), (paidZ S), X.li, X.rr, X.rn, X.dr) : ModN) K) rfl ?_
        refine ev_iald_n (f := S.pr) dX7_gain_95 rfl (by omega) (by decide) ?_
        refine ev_b bX7_gain_96_100 (lv' := [(6, .int (nI (k))), (5, .int (zI (shZ (kindS S b 0 0) (winB (kindS S b 0 0) 1023 &&& bgTo S.ow (1 <<< b) 5) k))), (0, .ref 0), (1, .int (nI (b))), (2, .int (zI ((((wonZ S)) b) - (((paidZ S)) b)))), (3, .int (nI (bgTo S.ow (1 <<< b) 5))), (4, .int (nI (winB (kindS S b 0 0) 1023)))]) (st' := [.int (nI (k)), .int (nI (1)), .ref 0, .int (nI (S.pr k)), .int (zI (shZ (kindS S b 0 0) (winB (kindS S b 0 0) 1023 &&& bgTo S.ow (1 <<< b) 5) k))]) (w2 := modW 0 S ((X.rf, wo2, ta2, ow2, 0, ((b : Nat) : Int), X.lt, X.ty, X.pl, X.nu, X.od, X.tt, X.oo, X.on, (wonZ S), (paidZ S), X.li, X.rr, X.rn, X.dr) : ModN) K) rfl ?_
        refine ev_ishl_n (by omega) dX7_gain_100 ?_
        refine ev_callM (Yc := mX7_harmOf) (st := [.int (nI (S.pr k)), .int (zI (shZ (kindS S b 0 0) (winB (kindS S b 0 0) 1023 &&& bgTo S.ow (1 <<< b) 5) k))]) dX7_gain_101 tw_1163 kX7_harmOf (m_X7_harmOf_t (kindS S b 0 0) S.kd S.fg ((X.rf, wo2, ta2, ow2, 0, ((b : Nat) : Int), X.lt, X.ty, X.pl, X.nu, X.od, X.tt, X.oo, X.on, (wonZ S), (paidZ S), X.li, X.rr, X.rn, X.dr) : ModN) K (1 <<< k) hU rfl hT2 (Nat.lt_of_lt_of_le (shl_lt (show k < 31 by omega)) (by decide))) rfl rfl rfl rfl (by decide) (Nat.le_of_ble_eq_true rfl) (Nat.le_refl _) (Nat.le_refl _) (fun r w' h => by obtain ⟨-, rfl⟩ := h; exact mod_eq) ?_
        rintro _ _ ⟨rfl, rfl⟩
        refine ev_eq (lv' := [(6, .int (nI (k))), (5, .int (zI (shZ (kindS S b 0 0) (winB (kindS S b 0 0) 1023 &&& bgTo S.ow (1 <<< b) 5) k))), (0, .ref 0), (1, .int (nI (b))), (2, .int (zI ((((wonZ S)) b) - (((paidZ S)) b)))), (3, .int (nI (bgTo S.ow (1 <<< b) 5))), (4, .int (nI (winB (kindS S b 0 0) 1023)))]) (st' := [.int (zI (harmM (kindS S b 0 0) (1 <<< k))), .int (nI (S.pr k)), .int (zI (shZ (kindS S b 0 0) (winB (kindS S b 0 0) 1023 &&& bgTo S.ow (1 <<< b) 5) k))]) (w' := modW 0 S ((X.rf, wo2, ta2, ow2, 0, ((b : Nat) : Int), X.lt, X.ty, X.pl, X.nu, X.od, X.tt, X.oo, X.on, (wonZ S), (paidZ S), X.li, X.rr, X.rn, X.dr) : ModN) K) rfl rfl rfl ?_
        refine ev_top (y := (zI (((winW (kindS S b 0 0) (andn 1023 (1 <<< k)) : Nat) : Int) - (((winW (kindS S b 0 0) 1023 : Nat) : Int) - ((SaleN.pr (kindS S b 0 0) k : Nat) : Int))))) (congrArg zI (show harmM (kindS S b 0 0) (1 <<< k) = ((winW (kindS S b 0 0) (andn 1023 (1 <<< k)) : Nat) : Int) - (((winW (kindS S b 0 0) 1023 : Nat) : Int) - ((SaleN.pr (kindS S b 0 0) k : Nat) : Int)) from by exact harm_bid (A := (kindS S b 0 0)) hlt66 (by rw [Nat.testBit_and, Bool.and_eq_true] at h84; exact h84.1))) ?_
        refine ev_top2 (y := zI (((S.pr k : Nat) : Int))) (zI_nat _).symm ?_
        refine ev_isub_z dX7_gain_104 ?_
        refine ev_iadd_z dX7_gain_105 ?_
        refine ev_b bX7_gain_106_108 (lv' := [(5, .int (zI ((shZ (kindS S b 0 0) (winB (kindS S b 0 0) 1023 &&& bgTo S.ow (1 <<< b) 5) k) + ((((S.pr k : Nat) : Int)) - (((winW (kindS S b 0 0) (andn 1023 (1 <<< k)) : Nat) : Int) - (((winW (kindS S b 0 0) 1023 : Nat) : Int) - ((SaleN.pr (kindS S b 0 0) k : Nat) : Int))))))), (6, .int (nI (k))), (0, .ref 0), (1, .int (nI (b))), (2, .int (zI ((((wonZ S)) b) - (((paidZ S)) b)))), (3, .int (nI (bgTo S.ow (1 <<< b) 5))), (4, .int (nI (winB (kindS S b 0 0) 1023)))]) (st' := []) (w2 := modW 0 S ((X.rf, wo2, ta2, ow2, 0, ((b : Nat) : Int), X.lt, X.ty, X.pl, X.nu, X.od, X.tt, X.oo, X.on, (wonZ S), (paidZ S), X.li, X.rr, X.rn, X.dr) : ModN) K) rfl ?_
        refine ev_iinc_n (x := k) (v := 1) dX7_gain_108 rfl (by decide) ?_
        refine ev_eq (lv' := [(6, .int (nI (k + 1))), (5, .int (zI ((shZ (kindS S b 0 0) (winB (kindS S b 0 0) 1023 &&& bgTo S.ow (1 <<< b) 5) k) + ((((S.pr k : Nat) : Int)) - (((winW (kindS S b 0 0) (andn 1023 (1 <<< k)) : Nat) : Int) - (((winW (kindS S b 0 0) 1023 : Nat) : Int) - ((SaleN.pr (kindS S b 0 0) k : Nat) : Int))))))), (0, .ref 0), (1, .int (nI (b))), (2, .int (zI ((((wonZ S)) b) - (((paidZ S)) b)))), (3, .int (nI (bgTo S.ow (1 <<< b) 5))), (4, .int (nI (winB (kindS S b 0 0) 1023)))]) rfl rfl rfl ?_
        refine ev_b bX7_gain_111_66 (lv' := [(6, .int (nI (k + 1))), (5, .int (zI ((shZ (kindS S b 0 0) (winB (kindS S b 0 0) 1023 &&& bgTo S.ow (1 <<< b) 5) k) + ((((S.pr k : Nat) : Int)) - (((winW (kindS S b 0 0) (andn 1023 (1 <<< k)) : Nat) : Int) - (((winW (kindS S b 0 0) 1023 : Nat) : Int) - ((SaleN.pr (kindS S b 0 0) k : Nat) : Int))))))), (0, .ref 0), (1, .int (nI (b))), (2, .int (zI ((((wonZ S)) b) - (((paidZ S)) b)))), (3, .int (nI (bgTo S.ow (1 <<< b) 5))), (4, .int (nI (winB (kindS S b 0 0) 1023)))]) (st' := []) (w2 := modW 0 S ((X.rf, wo2, ta2, ow2, 0, ((b : Nat) : Int), X.lt, X.ty, X.pl, X.nu, X.od, X.tt, X.oo, X.on, (wonZ S), (paidZ S), X.li, X.rr, X.rn, X.dr) : ModN) K) rfl ?_
        rw [show nI (k + 1) = nI ((k + 1)) from congrArg nI (by omega)]
        rw [show zI ((shZ (kindS S b 0 0) (winB (kindS S b 0 0) 1023 &&& bgTo S.ow (1 <<< b) 5) k) + ((((S.pr k : Nat) : Int)) - (((winW (kindS S b 0 0) (andn 1023 (1 <<< k)) : Nat) : Int) - (((winW (kindS S b 0 0) 1023 : Nat) : Int) - ((SaleN.pr (kindS S b 0 0) k : Nat) : Int))))) = zI (shZ (kindS S b 0 0) (winB (kindS S b 0 0) 1023 &&& bgTo S.ow (1 <<< b) 5) (k + 1)) from congrArg zI (by rw [shZ_s]; first | rw [if_neg h84] | (rw [if_pos h84]; rfl))]
        exact ih66 (k + 1) (by omega) 
  refine ev_pick (lv' := [(6, .int (nI (0))), (5, .int (nI (0))), (0, .ref 0), (1, .int (nI (b))), (2, .int (zI ((((wonZ S)) b) - (((paidZ S)) b)))), (3, .int (nI (bgTo S.ow (1 <<< b) 5))), (4, .int (nI (winB (kindS S b 0 0) 1023)))]) rfl ?_
  rw [show nI (0) = zI (shZ (kindS S b 0 0) (winB (kindS S b 0 0) 1023 &&& bgTo S.ow (1 <<< b) 5) 0) from by rw [← zI_nat]; exact congrArg zI (by exact rfl)]
  exact L66 S.ca 0 (by omega) 
