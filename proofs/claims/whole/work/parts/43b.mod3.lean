theorem bX7_findHarm_0_1 {l : Launch} {E : XE} : Snd l E mX7_findHarm 0 1 (xs [x_aload 0]) := Snd.cons (snd_aload_n (i := 0) dX7_findHarm_0 rfl) Snd.nil
theorem bX7_findHarm_4_6 {l : Launch} {E : XE} : Snd l E mX7_findHarm 4 6 (xs [x_istore 1, x_aload 0]) := Snd.cons (snd_istore_n (i := 1) dX7_findHarm_4 rfl (by decide)) (Snd.cons (snd_aload_n (i := 0) dX7_findHarm_5 rfl) Snd.nil)
theorem bX7_findHarm_9_11 {l : Launch} {E : XE} : Snd l E mX7_findHarm 9 11 (xs [x_push (.int (nI 0)), x_istore 2]) := Snd.cons (snd_iconst (v := nI 0) dX7_findHarm_9 (by decide)) (Snd.cons (snd_istore_n (i := 2) dX7_findHarm_10 rfl (by decide)) Snd.nil)
theorem bX7_findHarm_11_13 {l : Launch} {E : XE} : Snd l E mX7_findHarm 11 13 (xs [x_iload 2, x_push (.int (nI 5))]) := Snd.cons (snd_iload_n (i := 2) dX7_findHarm_11 rfl) (Snd.cons (snd_iconst (v := nI 5) dX7_findHarm_12 (by decide)) Snd.nil)
theorem bX7_findHarm_16_28 {l : Launch} {E : XE} : Snd l E mX7_findHarm 16 28 (xs [x_aload 0, x_get 8 24, x_iload 2, x_aload 0, x_iload 1, x_aload 0, x_get 8 11, x_iload 2]) := Snd.cons (snd_aload_n (i := 0) dX7_findHarm_16 rfl) (Snd.cons (snd_get (ci := 8) (k := 24) dX7_findHarm_17 rfl inX7 (by decide) tw_938) (Snd.cons (snd_iload_n (i := 2) dX7_findHarm_20 rfl) (Snd.cons (snd_aload_n (i := 0) dX7_findHarm_21 rfl) (Snd.cons (snd_iload_n (i := 1) dX7_findHarm_22 rfl) (Snd.cons (snd_aload_n (i := 0) dX7_findHarm_23 rfl) (Snd.cons (snd_get (ci := 8) (k := 11) dX7_findHarm_24 rfl inX7 (by decide) tw_925) (Snd.cons (snd_iload_n (i := 2) dX7_findHarm_27 rfl) Snd.nil)))))))
theorem bX7_findHarm_34_44 {l : Launch} {E : XE} : Snd l E mX7_findHarm 34 44 (xs [x_aload 0, x_get 8 25, x_iload 2, x_aload 0, x_get 8 24, x_iload 2]) := Snd.cons (snd_aload_n (i := 0) dX7_findHarm_34 rfl) (Snd.cons (snd_get (ci := 8) (k := 25) dX7_findHarm_35 rfl inX7 (by decide) tw_939) (Snd.cons (snd_iload_n (i := 2) dX7_findHarm_38 rfl) (Snd.cons (snd_aload_n (i := 0) dX7_findHarm_39 rfl) (Snd.cons (snd_get (ci := 8) (k := 24) dX7_findHarm_40 rfl inX7 (by decide) tw_938) (Snd.cons (snd_iload_n (i := 2) dX7_findHarm_43 rfl) Snd.nil)))))
theorem bX7_findHarm_52_58 {l : Launch} {E : XE} : Snd l E mX7_findHarm 52 58 (xs [x_aload 0, x_aload 0, x_get 8 11, x_iload 2]) := Snd.cons (snd_aload_n (i := 0) dX7_findHarm_52 rfl) (Snd.cons (snd_aload_n (i := 0) dX7_findHarm_53 rfl) (Snd.cons (snd_get (ci := 8) (k := 11) dX7_findHarm_54 rfl inX7 (by decide) tw_925) (Snd.cons (snd_iload_n (i := 2) dX7_findHarm_57 rfl) Snd.nil)))
theorem bX7_findHarm_66_11 {l : Launch} {E : XE} : Snd l E mX7_findHarm 66 11 (xs [x_id]) := Snd.cons (snd_goto (tgt := 11) dX7_findHarm_66 (by decide)) Snd.nil
theorem bX7_findHarm_48_62 {l : Launch} {E : XE} : Snd l E mX7_findHarm 48 62 (xs [x_push (.int (nI 0)), x_id]) := Snd.cons (snd_iconst (v := nI 0) dX7_findHarm_48 (by decide)) (Snd.cons (snd_goto (tgt := 62) dX7_findHarm_49 (by decide)) Snd.nil)
set_option maxHeartbeats 4000000 in
set_option maxRecDepth 100000 in
theorem m_X7_findHarm {l : Launch} {E : XE} (S : SaleN) (X : ModN) (K : Option (Nat → Nat)) (hS : SaleOK S) (hM : MOK S X) : MetE l E mX7_findHarm (6) 0 0 [.ref 0] (modW 0 S X K) (fun r w' => r = none ∧ ∃ wo ta : Nat → Int, w' = modW 0 S (lfX X wo ta (owF S) (wonZ S) (paidZ S) X.li) K ∧ TabF S wo ta) := by
  refine MetE.of (by decide +kernel) (Nat.le_of_ble_eq_true rfl) ?_
  have hca := hS.1
  refine ev_eq (lv' := [(0, .ref 0)]) (st' := []) (w' := modW 0 S X K) rfl rfl rfl ?_
  refine ev_b bX7_findHarm_0_1 (lv' := [(0, .ref 0)]) (st' := [.ref 0]) (w2 := modW 0 S X K) rfl ?_
  refine ev_callM (Yc := mX7_winnersNow) (st := []) dX7_findHarm_1 tw_1104 kX7_winnersNow (m_X7_winnersNow_g S S.kd S.fg X K hS (kf_self hM.1) hM.2) rfl rfl rfl rfl (by decide) (Nat.le_of_ble_eq_true rfl) (Nat.le_refl _) (Nat.le_refl _) (fun r w' h => by obtain ⟨-, wo, ta, ow, rfl, -⟩ := h; exact mod_eq) ?_
  rintro _ _ ⟨rfl, wo, ta, ow, rfl, hT⟩
  refine ev_eq (lv' := [(0, .ref 0)]) (st' := [.int (nI (winB S 1023))]) (w' := modW 0 S ((X.rf, wo, ta, ow, 0, X.sh, X.lt, X.ty, X.pl, X.nu, X.od, X.tt, X.oo, X.on, X.wn, X.pd, X.li, X.rr, X.rn, X.dr) : ModN) K) rfl rfl rfl ?_
  have hwb := winB_lt hS 1023
  refine ev_b bX7_findHarm_4_6 (lv' := [(1, .int (nI (winB S 1023))), (0, .ref 0)]) (st' := [.ref 0]) (w2 := modW 0 S ((X.rf, wo, ta, ow, 0, X.sh, X.lt, X.ty, X.pl, X.nu, X.od, X.tt, X.oo, X.on, X.wn, X.pd, X.li, X.rr, X.rn, X.dr) : ModN) K) rfl ?_
  refine ev_callM (Yc := mX7_findOwn) (st := []) dX7_findHarm_6 tw_1120 kX7_findOwn (m_X7_findOwn S ((X.rf, wo, ta, ow, 0, X.sh, X.lt, X.ty, X.pl, X.nu, X.od, X.tt, X.oo, X.on, X.wn, X.pd, X.li, X.rr, X.rn, X.dr) : ModN) K hS.1 (fun k hk => (hS.2.2.1 k hk).1)) rfl rfl rfl rfl (by decide) (Nat.le_of_ble_eq_true rfl) (Nat.le_refl _) (Nat.le_refl _) (fun r w' h => by obtain ⟨-, rfl⟩ := h; exact mod_eq) ?_
  rintro _ _ ⟨rfl, rfl⟩
  refine ev_eq (lv' := [(1, .int (nI (winB S 1023))), (0, .ref 0)]) (st' := []) (w' := modW 0 S ((X.rf, wo, ta, (owF S), 0, X.sh, X.lt, X.ty, X.pl, X.nu, X.od, X.tt, X.oo, X.on, X.wn, X.pd, X.li, X.rr, X.rn, X.dr) : ModN) K) rfl rfl rfl ?_
  refine ev_b bX7_findHarm_9_11 (lv' := [(2, .int (nI (0))), (1, .int (nI (winB S 1023))), (0, .ref 0)]) (st' := []) (w2 := modW 0 S ((X.rf, wo, ta, (owF S), 0, X.sh, X.lt, X.ty, X.pl, X.nu, X.od, X.tt, X.oo, X.on, X.wn, X.pd, X.li, X.rr, X.rn, X.dr) : ModN) K) rfl ?_
  have L11 : ∀ (j_ k : Nat), k + j_ = 5 → ∀ (g h : Nat → Int), ((∀ j, j < k → g j = wonZ S j) ∧ ∀ j, j < k → h j = paidZ S j) → Ev l E mX7_findHarm (6) 0 0 (modW 0 S X K) (fun r w' => r = none ∧ ∃ wo ta : Nat → Int, w' = modW 0 S (lfX X wo ta (owF S) (wonZ S) (paidZ S) X.li) K ∧ TabF S wo ta) 0 0 11 [(2, .int (nI (k))), (0, .ref 0), (1, .int (nI (winB S 1023)))] [] (modW 0 S ((X.rf, wo, ta, (owF S), 0, X.sh, X.lt, X.ty, X.pl, X.nu, X.od, X.tt, X.oo, X.on, g, h, X.li, X.rr, X.rn, X.dr) : ModN) K) := by
    intro j_
    induction j_ with
    | zero =>
      intro k hk11 g h hinv11
      replace hk11 : k = 5 := hk11
      subst hk11
      refine ev_b bX7_findHarm_11_13 (lv' := [(2, .int (nI (5))), (0, .ref 0), (1, .int (nI (winB S 1023)))]) (st' := [.int (nI (5)), .int (nI (5))]) (w2 := modW 0 S ((X.rf, wo, ta, (owF S), 0, X.sh, X.lt, X.ty, X.pl, X.nu, X.od, X.tt, X.oo, X.on, g, h, X.li, X.rr, X.rn, X.dr) : ModN) K) rfl ?_
      refine ev_icmp_ge_n (tgt := 69) (by decide) (by decide) dX7_findHarm_13 (by decide) (fun h13 => ?_) (fun h13 => (by exfalso; omega))
      refine ev_arr (b := 16) (g := aZ (wonZ S)) rfl (fun j hj => congrArg zI (hinv11.1 j hj)) ?_
      refine ev_arr (b := 17) (g := aZ (paidZ S)) rfl (fun j hj => congrArg zI (hinv11.2 j hj)) ?_
      refine ev_eq (w' := modW 0 S ((X.rf, wo, ta, (owF S), 0, X.sh, X.lt, X.ty, X.pl, X.nu, X.od, X.tt, X.oo, X.on, (wonZ S), (paidZ S), X.li, X.rr, X.rn, X.dr) : ModN) K) rfl rfl rfl ?_
      exact ev_vret dX7_findHarm_69 rfl mod_le (Nat.le_refl _) (Nat.le_refl _) ⟨rfl, wo, ta, rfl, hT⟩
    | succ j_ ih11 =>
      intro k hk11 g h hinv11
      have hlt11 : k < 5 := by omega
      refine ev_b bX7_findHarm_11_13 (lv' := [(2, .int (nI (k))), (0, .ref 0), (1, .int (nI (winB S 1023)))]) (st' := [.int (nI (5)), .int (nI (k))]) (w2 := modW 0 S ((X.rf, wo, ta, (owF S), 0, X.sh, X.lt, X.ty, X.pl, X.nu, X.od, X.tt, X.oo, X.on, g, h, X.li, X.rr, X.rn, X.dr) : ModN) K) rfl ?_
      refine ev_icmp_ge_n (tgt := 69) (by omega) (by decide) dX7_findHarm_13 (by decide) (fun h13 => (by exfalso; omega)) (fun h13 => ?_)
      refine ev_b bX7_findHarm_16_28 (lv' := [(2, .int (nI (k))), (0, .ref 0), (1, .int (nI (winB S 1023)))]) (st' := [.int (nI (k)), .ref 10, .int (nI (winB S 1023)), .ref 0, .int (nI (k)), .ref 16]) (w2 := modW 0 S ((X.rf, wo, ta, (owF S), 0, X.sh, X.lt, X.ty, X.pl, X.nu, X.od, X.tt, X.oo, X.on, g, h, X.li, X.rr, X.rn, X.dr) : ModN) K) rfl ?_
      refine ev_iald_n (f := (owF S)) dX7_findHarm_28 rfl (by omega) (by decide) ?_
      refine ev_iand_n dX7_findHarm_29 ?_
      refine ev_callM (Yc := mX7_pricesOf) (st := [.int (nI (k)), .ref 16]) dX7_findHarm_30 tw_1159 kX7_pricesOf (m_X7_pricesOf S S.kd S.fg ((X.rf, wo, ta, (owF S), 0, X.sh, X.lt, X.ty, X.pl, X.nu, X.od, X.tt, X.oo, X.on, g, h, X.li, X.rr, X.rn, X.dr) : ModN) K (winB S 1023 &&& owF S k) hS (Nat.lt_of_le_of_lt Nat.and_le_left (by omega))) rfl rfl rfl rfl (by decide) (Nat.le_of_ble_eq_true rfl) (Nat.le_refl _) (Nat.le_refl _) (fun r w' h => by obtain ⟨-, rfl⟩ := h; exact mod_eq) ?_
      rintro _ _ ⟨rfl, rfl⟩
      refine ev_eq (lv' := [(2, .int (nI (k))), (0, .ref 0), (1, .int (nI (winB S 1023)))]) (st' := [.int (nI (prTo S.pr (winB S 1023 &&& owF S k) S.ca)), .int (nI (k)), .ref 16]) (w' := modW 0 S ((X.rf, wo, ta, (owF S), 0, X.sh, X.lt, X.ty, X.pl, X.nu, X.od, X.tt, X.oo, X.on, g, h, X.li, X.rr, X.rn, X.dr) : ModN) K) rfl rfl rfl ?_
      have hwk := wonN_le hS k
      refine ev_top (y := (nI (wonN S k))) (congrArg nI (show prTo S.pr (winB S 1023 &&& owF S k) S.ca = wonN S k from by exact won_ow hS hlt11)) ?_
      refine ev_top (y := zI (((wonN S k : Nat) : Int))) (zI_nat _).symm ?_
      refine ev_iast_z (f := g) dX7_findHarm_33 rfl (by omega) (by decide) ?_
      refine ev_eq (w' := modW 0 S ((X.rf, wo, ta, (owF S), 0, X.sh, X.lt, X.ty, X.pl, X.nu, X.od, X.tt, X.oo, X.on, up g k (((wonN S k : Nat) : Int)), h, X.li, X.rr, X.rn, X.dr) : ModN) K) rfl rfl rfl ?_
      refine ev_b bX7_findHarm_34_44 (lv' := [(2, .int (nI (k))), (0, .ref 0), (1, .int (nI (winB S 1023)))]) (st' := [.int (nI (k)), .ref 16, .int (nI (k)), .ref 17]) (w2 := modW 0 S ((X.rf, wo, ta, (owF S), 0, X.sh, X.lt, X.ty, X.pl, X.nu, X.od, X.tt, X.oo, X.on, up g k (((wonN S k : Nat) : Int)), h, X.li, X.rr, X.rn, X.dr) : ModN) K) rfl ?_
      refine ev_iald_z (f := up g k (((wonN S k : Nat) : Int))) dX7_findHarm_44 rfl (by omega) (by decide) ?_
      refine ev_top (y := (nI (wonN S k))) (by rw [show (up g k (((wonN S k : Nat) : Int))) k = ((wonN S k : Nat) : Int) from by exact up_at _ _ _]; exact zI_nat _) ?_
      refine ev_if_ne_n (tgt := 52) (by omega) dX7_findHarm_45 (by decide) (fun h45 => ?_) (fun h45 => ?_)
      · skip
        refine ev_b bX7_findHarm_52_58 (lv' := [(2, .int (nI (k))), (0, .ref 0), (1, .int (nI (winB S 1023)))]) (st' := [.int (nI (k)), .ref 10, .ref 0, .int (nI (k)), .ref 17]) (w2 := modW 0 S ((X.rf, wo, ta, (owF S), 0, X.sh, X.lt, X.ty, X.pl, X.nu, X.od, X.tt, X.oo, X.on, up g k (((wonN S k : Nat) : Int)), h, X.li, X.rr, X.rn, X.dr) : ModN) K) rfl ?_
        refine ev_iald_n (f := (owF S)) dX7_findHarm_58 rfl (by omega) (by decide) ?_
        refine ev_callM (Yc := mX7_harmOf) (st := [.int (nI (k)), .ref 17]) dX7_findHarm_59 tw_1163 kX7_harmOf (m_X7_harmOf_t S S.kd S.fg ((X.rf, wo, ta, (owF S), 0, X.sh, X.lt, X.ty, X.pl, X.nu, X.od, X.tt, X.oo, X.on, up g k (((wonN S k : Nat) : Int)), h, X.li, X.rr, X.rn, X.dr) : ModN) K (owF S k) hS rfl hT (Nat.lt_trans (owF_lt hS k) (by decide))) rfl rfl rfl rfl (by decide) (Nat.le_of_ble_eq_true rfl) (Nat.le_refl _) (Nat.le_refl _) (fun r w' h => by obtain ⟨-, rfl⟩ := h; exact mod_eq) ?_
        rintro _ _ ⟨rfl, rfl⟩
        refine ev_eq (lv' := [(2, .int (nI (k))), (0, .ref 0), (1, .int (nI (winB S 1023)))]) (st' := [.int (zI (harmM S (owF S k))), .int (nI (k)), .ref 17]) (w' := modW 0 S ((X.rf, wo, ta, (owF S), 0, X.sh, X.lt, X.ty, X.pl, X.nu, X.od, X.tt, X.oo, X.on, up g k (((wonN S k : Nat) : Int)), h, X.li, X.rr, X.rn, X.dr) : ModN) K) rfl rfl rfl ?_
        refine ev_top (y := (zI (paidZ S k))) (congrArg zI (show harmM S (owF S k) = paidZ S k from by exact paid_ow hS hlt11 h45)) ?_
        refine ev_iast_z (f := h) dX7_findHarm_62 rfl (by omega) (by decide) ?_
        refine ev_eq (w' := modW 0 S ((X.rf, wo, ta, (owF S), 0, X.sh, X.lt, X.ty, X.pl, X.nu, X.od, X.tt, X.oo, X.on, up g k (((wonN S k : Nat) : Int)), up h k (paidZ S k), X.li, X.rr, X.rn, X.dr) : ModN) K) rfl rfl rfl ?_
        refine ev_iinc_n (x := k) (v := 1) dX7_findHarm_63 rfl (by decide) ?_
        refine ev_eq (lv' := [(2, .int (nI (k + 1))), (0, .ref 0), (1, .int (nI (winB S 1023)))]) rfl rfl rfl ?_
        refine ev_b bX7_findHarm_66_11 (lv' := [(2, .int (nI (k + 1))), (0, .ref 0), (1, .int (nI (winB S 1023)))]) (st' := []) (w2 := modW 0 S ((X.rf, wo, ta, (owF S), 0, X.sh, X.lt, X.ty, X.pl, X.nu, X.od, X.tt, X.oo, X.on, up g k (((wonN S k : Nat) : Int)), up h k (paidZ S k), X.li, X.rr, X.rn, X.dr) : ModN) K) rfl ?_
        rw [show nI (k + 1) = nI ((k + 1)) from congrArg nI (by omega)]
        exact ih11 (k + 1) (by omega) _ _ ⟨won_up hinv11.1 rfl, paid_up hinv11.2 (by first | rfl | exact (if_pos h45).symm)⟩
      · skip
        refine ev_b bX7_findHarm_48_62 (lv' := [(2, .int (nI (k))), (0, .ref 0), (1, .int (nI (winB S 1023)))]) (st' := [.int (nI (0)), .int (nI (k)), .ref 17]) (w2 := modW 0 S ((X.rf, wo, ta, (owF S), 0, X.sh, X.lt, X.ty, X.pl, X.nu, X.od, X.tt, X.oo, X.on, up g k (((wonN S k : Nat) : Int)), h, X.li, X.rr, X.rn, X.dr) : ModN) K) rfl ?_
        refine ev_top (y := zI (((0 : Nat) : Int))) (zI_nat _).symm ?_
        refine ev_iast_z (f := h) dX7_findHarm_62 rfl (by omega) (by decide) ?_
        refine ev_eq (w' := modW 0 S ((X.rf, wo, ta, (owF S), 0, X.sh, X.lt, X.ty, X.pl, X.nu, X.od, X.tt, X.oo, X.on, up g k (((wonN S k : Nat) : Int)), up h k (((0 : Nat) : Int)), X.li, X.rr, X.rn, X.dr) : ModN) K) rfl rfl rfl ?_
        refine ev_iinc_n (x := k) (v := 1) dX7_findHarm_63 rfl (by decide) ?_
        refine ev_eq (lv' := [(2, .int (nI (k + 1))), (0, .ref 0), (1, .int (nI (winB S 1023)))]) rfl rfl rfl ?_
        refine ev_b bX7_findHarm_66_11 (lv' := [(2, .int (nI (k + 1))), (0, .ref 0), (1, .int (nI (winB S 1023)))]) (st' := []) (w2 := modW 0 S ((X.rf, wo, ta, (owF S), 0, X.sh, X.lt, X.ty, X.pl, X.nu, X.od, X.tt, X.oo, X.on, up g k (((wonN S k : Nat) : Int)), up h k (((0 : Nat) : Int)), X.li, X.rr, X.rn, X.dr) : ModN) K) rfl ?_
        rw [show nI (k + 1) = nI ((k + 1)) from congrArg nI (by omega)]
        exact ih11 (k + 1) (by omega) _ _ ⟨won_up hinv11.1 rfl, paid_up hinv11.2 (by first | rfl | exact (if_pos h45).symm)⟩
  refine ev_pick (lv' := [(2, .int (nI (0))), (0, .ref 0), (1, .int (nI (winB S 1023)))]) rfl ?_
  exact L11 5 0 (by omega) X.wn X.pd ⟨fun j hj => absurd hj (Nat.not_lt_zero j), fun j hj => absurd hj (Nat.not_lt_zero j)⟩
