theorem bX7_finds_0_2 {l : Launch} {E : XE} : Snd l E mX7_finds 0 2 (xs [x_iload 1, x_push (.int (nI 2))]) := Snd.cons (snd_iload_n (i := 1) dX7_finds_0 rfl) (Snd.cons (snd_iconst (v := nI 2) dX7_finds_1 (by decide)) Snd.nil)
theorem bX7_finds_5_6 {l : Launch} {E : XE} : Snd l E mX7_finds 5 6 (xs [x_aload 0]) := Snd.cons (snd_aload_n (i := 0) dX7_finds_5 rfl) Snd.nil
set_option maxHeartbeats 4000000 in
set_option maxRecDepth 100000 in
theorem m_X7_finds_2 {l : Launch} {E : XE} (S : SaleN) (X : ModN) (K : Option (Nat → Nat)) (n : Nat) (hS : SaleOK S) (hM : MOK S X) (hn : LiftsTo S n) : MetE l E mX7_finds (8) 0 0 [.ref 0, .int (nI (2))] (modW 0 S X K) (fun r w' => r = none ∧ ∃ wo ta : Nat → Int, w' = modW 0 S (lfX X wo ta (owF S) (wonZ S) (itS S n) n) K ∧ TabF S wo ta) := by
  refine MetE.of (by decide +kernel) (Nat.le_of_ble_eq_true rfl) ?_
  refine ev_eq (lv' := [(0, .ref 0), (1, .int (nI (2)))]) (st' := []) (w' := modW 0 S X K) rfl rfl rfl ?_
  refine ev_b bX7_finds_0_2 (lv' := [(0, .ref 0), (1, .int (nI (2)))]) (st' := [.int (nI (2)), .int (nI (2))]) (w2 := modW 0 S X K) rfl ?_
  refine ev_icmp_ne_n (tgt := 10) (by decide) (by decide) dX7_finds_2 (by decide) (fun h2 => (by exfalso; omega)) (fun h2 => ?_)
  refine ev_b bX7_finds_5_6 (lv' := [(0, .ref 0), (1, .int (nI (2)))]) (st' := [.ref 0]) (w2 := modW 0 S X K) rfl ?_
  refine ev_callM (Yc := mX7_findLifted) (st := []) dX7_finds_6 tw_1220 kX7_findLifted (m_X7_findLifted S X K n hS hM hn) rfl rfl rfl rfl (by decide) (Nat.le_of_ble_eq_true rfl) (Nat.le_refl _) (Nat.le_refl _) (fun r w' h => by obtain ⟨-, wo, ta, rfl, -⟩ := h; exact mod_eq) ?_
  rintro _ _ ⟨rfl, wo, ta, rfl, hT⟩
  refine ev_eq (lv' := [(0, .ref 0), (1, .int (nI (2)))]) (st' := []) (w' := modW 0 S ((X.rf, wo, ta, (owF S), 0, X.sh, X.lt, X.ty, X.pl, X.nu, X.od, X.tt, X.oo, X.on, (wonZ S), (itS S n), n, X.rr, X.rn, X.dr) : ModN) K) rfl rfl rfl ?_
  exact ev_vret dX7_finds_9 rfl mod_le (Nat.le_refl _) (Nat.le_refl _) ⟨rfl, wo, ta, rfl, hT⟩
theorem bX7_finds_10_11 {l : Launch} {E : XE} : Snd l E mX7_finds 10 11 (xs [x_aload 0]) := Snd.cons (snd_aload_n (i := 0) dX7_finds_10 rfl) Snd.nil
theorem bX7_finds_14_18 {l : Launch} {E : XE} : Snd l E mX7_finds 14 18 (xs [x_push (.int (nI 0)), x_istore 2, x_iload 2, x_push (.int (nI 5))]) := Snd.cons (snd_iconst (v := nI 0) dX7_finds_14 (by decide)) (Snd.cons (snd_istore_n (i := 2) dX7_finds_15 rfl (by decide)) (Snd.cons (snd_iload_n (i := 2) dX7_finds_16 rfl) (Snd.cons (snd_iconst (v := nI 5) dX7_finds_17 (by decide)) Snd.nil)))
theorem bX7_finds_21_22 {l : Launch} {E : XE} : Snd l E mX7_finds 21 22 (xs [x_iload 1]) := Snd.cons (snd_iload_n (i := 1) dX7_finds_21 rfl) Snd.nil
set_option maxHeartbeats 4000000 in
set_option maxRecDepth 100000 in
theorem m_X7_finds_1 {l : Launch} {E : XE} (S : SaleN) (X : ModN) (K : Option (Nat → Nat)) (hS : SaleOK S) (hM : MOK S X) : MetE l E mX7_finds (7) 0 0 [.ref 0, .int (nI (1))] (modW 0 S X K) (fun r w' => r = none ∧ ∃ wo ta : Nat → Int, w' = modW 0 S (lfX X wo ta (owF S) (wonZ S) (paidZ S) X.li) K ∧ TabF S wo ta) := by
  refine MetE.of (by decide +kernel) (Nat.le_of_ble_eq_true rfl) ?_
  refine ev_eq (lv' := [(0, .ref 0), (1, .int (nI (1)))]) (st' := []) (w' := modW 0 S X K) rfl rfl rfl ?_
  refine ev_b bX7_finds_0_2 (lv' := [(0, .ref 0), (1, .int (nI (1)))]) (st' := [.int (nI (2)), .int (nI (1))]) (w2 := modW 0 S X K) rfl ?_
  refine ev_icmp_ne_n (tgt := 10) (by decide) (by decide) dX7_finds_2 (by decide) (fun h2 => ?_) (fun h2 => (by exfalso; omega))
  refine ev_b bX7_finds_10_11 (lv' := [(0, .ref 0), (1, .int (nI (1)))]) (st' := [.ref 0]) (w2 := modW 0 S X K) rfl ?_
  refine ev_callM (Yc := mX7_findHarm) (st := []) dX7_finds_11 tw_1224 kX7_findHarm (m_X7_findHarm S X K hS hM) rfl rfl rfl rfl (by decide) (Nat.le_of_ble_eq_true rfl) (Nat.le_refl _) (Nat.le_refl _) (fun r w' h => by obtain ⟨-, wo, ta, rfl, -⟩ := h; exact mod_eq) ?_
  rintro _ _ ⟨rfl, wo, ta, rfl, hT⟩
  refine ev_eq (lv' := [(0, .ref 0), (1, .int (nI (1)))]) (st' := []) (w' := modW 0 S ((X.rf, wo, ta, (owF S), 0, X.sh, X.lt, X.ty, X.pl, X.nu, X.od, X.tt, X.oo, X.on, (wonZ S), (paidZ S), X.li, X.rr, X.rn, X.dr) : ModN) K) rfl rfl rfl ?_
  refine ev_b bX7_finds_14_18 (lv' := [(2, .int (nI (0))), (0, .ref 0), (1, .int (nI (1)))]) (st' := [.int (nI (5)), .int (nI (0))]) (w2 := modW 0 S ((X.rf, wo, ta, (owF S), 0, X.sh, X.lt, X.ty, X.pl, X.nu, X.od, X.tt, X.oo, X.on, (wonZ S), (paidZ S), X.li, X.rr, X.rn, X.dr) : ModN) K) rfl ?_
  refine ev_icmp_ge_n (tgt := 43) (by decide) (by decide) dX7_finds_18 (by decide) (fun h18 => (by exfalso; omega)) (fun h18 => ?_)
  refine ev_b bX7_finds_21_22 (lv' := [(2, .int (nI (0))), (0, .ref 0), (1, .int (nI (1)))]) (st' := [.int (nI (1))]) (w2 := modW 0 S ((X.rf, wo, ta, (owF S), 0, X.sh, X.lt, X.ty, X.pl, X.nu, X.od, X.tt, X.oo, X.on, (wonZ S), (paidZ S), X.li, X.rr, X.rn, X.dr) : ModN) K) rfl ?_
  refine ev_if_ne_n (tgt := 43) (by decide) dX7_finds_22 (by decide) (fun h22 => ?_) (fun h22 => (by exfalso; omega))
  exact ev_vret dX7_finds_43 rfl mod_le (Nat.le_refl _) (Nat.le_refl _) ⟨rfl, wo, ta, rfl, hT⟩
theorem bX7_finds_14_16 {l : Launch} {E : XE} : Snd l E mX7_finds 14 16 (xs [x_push (.int (nI 0)), x_istore 2]) := Snd.cons (snd_iconst (v := nI 0) dX7_finds_14 (by decide)) (Snd.cons (snd_istore_n (i := 2) dX7_finds_15 rfl (by decide)) Snd.nil)
theorem bX7_finds_16_18 {l : Launch} {E : XE} : Snd l E mX7_finds 16 18 (xs [x_iload 2, x_push (.int (nI 5))]) := Snd.cons (snd_iload_n (i := 2) dX7_finds_16 rfl) (Snd.cons (snd_iconst (v := nI 5) dX7_finds_17 (by decide)) Snd.nil)
theorem bX7_finds_25_35 {l : Launch} {E : XE} : Snd l E mX7_finds 25 35 (xs [x_aload 0, x_get 8 25, x_iload 2, x_aload 0, x_get 8 24, x_iload 2]) := Snd.cons (snd_aload_n (i := 0) dX7_finds_25 rfl) (Snd.cons (snd_get (ci := 8) (k := 25) dX7_finds_26 rfl inX7 (by decide) tw_939) (Snd.cons (snd_iload_n (i := 2) dX7_finds_29 rfl) (Snd.cons (snd_aload_n (i := 0) dX7_finds_30 rfl) (Snd.cons (snd_get (ci := 8) (k := 24) dX7_finds_31 rfl inX7 (by decide) tw_938) (Snd.cons (snd_iload_n (i := 2) dX7_finds_34 rfl) Snd.nil)))))
theorem bX7_finds_40_16 {l : Launch} {E : XE} : Snd l E mX7_finds 40 16 (xs [x_id]) := Snd.cons (snd_goto (tgt := 16) dX7_finds_40 (by decide)) Snd.nil
set_option maxHeartbeats 4000000 in
set_option maxRecDepth 100000 in
theorem m_X7_finds_0 {l : Launch} {E : XE} (S : SaleN) (X : ModN) (K : Option (Nat → Nat)) (hS : SaleOK S) (hM : MOK S X) : MetE l E mX7_finds (7) 0 0 [.ref 0, .int (nI (0))] (modW 0 S X K) (fun r w' => r = none ∧ ∃ wo ta : Nat → Int, w' = modW 0 S (lfX X wo ta (owF S) (wonZ S) (wonZ S) X.li) K ∧ TabF S wo ta) := by
  refine MetE.of (by decide +kernel) (Nat.le_of_ble_eq_true rfl) ?_
  refine ev_eq (lv' := [(0, .ref 0), (1, .int (nI (0)))]) (st' := []) (w' := modW 0 S X K) rfl rfl rfl ?_
  refine ev_b bX7_finds_0_2 (lv' := [(0, .ref 0), (1, .int (nI (0)))]) (st' := [.int (nI (2)), .int (nI (0))]) (w2 := modW 0 S X K) rfl ?_
  refine ev_icmp_ne_n (tgt := 10) (by decide) (by decide) dX7_finds_2 (by decide) (fun h2 => ?_) (fun h2 => (by exfalso; omega))
  refine ev_b bX7_finds_10_11 (lv' := [(0, .ref 0), (1, .int (nI (0)))]) (st' := [.ref 0]) (w2 := modW 0 S X K) rfl ?_
  refine ev_callM (Yc := mX7_findHarm) (st := []) dX7_finds_11 tw_1224 kX7_findHarm (m_X7_findHarm S X K hS hM) rfl rfl rfl rfl (by decide) (Nat.le_of_ble_eq_true rfl) (Nat.le_refl _) (Nat.le_refl _) (fun r w' h => by obtain ⟨-, wo, ta, rfl, -⟩ := h; exact mod_eq) ?_
  rintro _ _ ⟨rfl, wo, ta, rfl, hT⟩
  refine ev_eq (lv' := [(0, .ref 0), (1, .int (nI (0)))]) (st' := []) (w' := modW 0 S ((X.rf, wo, ta, (owF S), 0, X.sh, X.lt, X.ty, X.pl, X.nu, X.od, X.tt, X.oo, X.on, (wonZ S), (paidZ S), X.li, X.rr, X.rn, X.dr) : ModN) K) rfl rfl rfl ?_
  refine ev_b bX7_finds_14_16 (lv' := [(2, .int (nI (0))), (0, .ref 0), (1, .int (nI (0)))]) (st' := []) (w2 := modW 0 S ((X.rf, wo, ta, (owF S), 0, X.sh, X.lt, X.ty, X.pl, X.nu, X.od, X.tt, X.oo, X.on, (wonZ S), (paidZ S), X.li, X.rr, X.rn, X.dr) : ModN) K) rfl ?_
  have L16 : ∀ (j_ k : Nat), k + j_ = 5 → ∀ (h : Nat → Int), (∀ j, j < k → h j = wonZ S j) → Ev l E mX7_finds (7) 0 0 (modW 0 S X K) (fun r w' => r = none ∧ ∃ wo ta : Nat → Int, w' = modW 0 S (lfX X wo ta (owF S) (wonZ S) (wonZ S) X.li) K ∧ TabF S wo ta) 0 0 16 [(2, .int (nI (k))), (0, .ref 0), (1, .int (nI (0)))] [] (modW 0 S ((X.rf, wo, ta, (owF S), 0, X.sh, X.lt, X.ty, X.pl, X.nu, X.od, X.tt, X.oo, X.on, (wonZ S), h, X.li, X.rr, X.rn, X.dr) : ModN) K) := by
    intro j_
    induction j_ with
    | zero =>
      intro k hk16 h hinv16
      replace hk16 : k = 5 := hk16
      subst hk16
      refine ev_b bX7_finds_16_18 (lv' := [(2, .int (nI (5))), (0, .ref 0), (1, .int (nI (0)))]) (st' := [.int (nI (5)), .int (nI (5))]) (w2 := modW 0 S ((X.rf, wo, ta, (owF S), 0, X.sh, X.lt, X.ty, X.pl, X.nu, X.od, X.tt, X.oo, X.on, (wonZ S), h, X.li, X.rr, X.rn, X.dr) : ModN) K) rfl ?_
      refine ev_icmp_ge_n (tgt := 43) (by decide) (by decide) dX7_finds_18 (by decide) (fun h18 => ?_) (fun h18 => (by exfalso; omega))
      refine ev_arr (b := 17) (g := aZ (wonZ S)) rfl (fun j hj => congrArg zI (hinv16 j hj)) ?_
      refine ev_eq (w' := modW 0 S ((X.rf, wo, ta, (owF S), 0, X.sh, X.lt, X.ty, X.pl, X.nu, X.od, X.tt, X.oo, X.on, (wonZ S), (wonZ S), X.li, X.rr, X.rn, X.dr) : ModN) K) rfl rfl rfl ?_
      exact ev_vret dX7_finds_43 rfl mod_le (Nat.le_refl _) (Nat.le_refl _) ⟨rfl, wo, ta, rfl, hT⟩
    | succ j_ ih16 =>
      intro k hk16 h hinv16
      have hlt16 : k < 5 := by omega
      refine ev_b bX7_finds_16_18 (lv' := [(2, .int (nI (k))), (0, .ref 0), (1, .int (nI (0)))]) (st' := [.int (nI (5)), .int (nI (k))]) (w2 := modW 0 S ((X.rf, wo, ta, (owF S), 0, X.sh, X.lt, X.ty, X.pl, X.nu, X.od, X.tt, X.oo, X.on, (wonZ S), h, X.li, X.rr, X.rn, X.dr) : ModN) K) rfl ?_
      refine ev_icmp_ge_n (tgt := 43) (by omega) (by decide) dX7_finds_18 (by decide) (fun h18 => (by exfalso; omega)) (fun h18 => ?_)
      refine ev_b bX7_finds_21_22 (lv' := [(2, .int (nI (k))), (0, .ref 0), (1, .int (nI (0)))]) (st' := [.int (nI (0))]) (w2 := modW 0 S ((X.rf, wo, ta, (owF S), 0, X.sh, X.lt, X.ty, X.pl, X.nu, X.od, X.tt, X.oo, X.on, (wonZ S), h, X.li, X.rr, X.rn, X.dr) : ModN) K) rfl ?_
      refine ev_if_ne_n (tgt := 43) (by decide) dX7_finds_22 (by decide) (fun h22 => (by exfalso; omega)) (fun h22 => ?_)
      refine ev_b bX7_finds_25_35 (lv' := [(2, .int (nI (k))), (0, .ref 0), (1, .int (nI (0)))]) (st' := [.int (nI (k)), .ref 16, .int (nI (k)), .ref 17]) (w2 := modW 0 S ((X.rf, wo, ta, (owF S), 0, X.sh, X.lt, X.ty, X.pl, X.nu, X.od, X.tt, X.oo, X.on, (wonZ S), h, X.li, X.rr, X.rn, X.dr) : ModN) K) rfl ?_
      refine ev_iald_z (f := (wonZ S)) dX7_finds_35 rfl (by omega) (by decide) ?_
      refine ev_iast_z (f := h) dX7_finds_36 rfl (by omega) (by decide) ?_
      refine ev_eq (w' := modW 0 S ((X.rf, wo, ta, (owF S), 0, X.sh, X.lt, X.ty, X.pl, X.nu, X.od, X.tt, X.oo, X.on, (wonZ S), up h k (((wonZ S)) k), X.li, X.rr, X.rn, X.dr) : ModN) K) rfl rfl rfl ?_
      refine ev_iinc_n (x := k) (v := 1) dX7_finds_37 rfl (by decide) ?_
      refine ev_eq (lv' := [(2, .int (nI (k + 1))), (0, .ref 0), (1, .int (nI (0)))]) rfl rfl rfl ?_
      refine ev_b bX7_finds_40_16 (lv' := [(2, .int (nI (k + 1))), (0, .ref 0), (1, .int (nI (0)))]) (st' := []) (w2 := modW 0 S ((X.rf, wo, ta, (owF S), 0, X.sh, X.lt, X.ty, X.pl, X.nu, X.od, X.tt, X.oo, X.on, (wonZ S), up h k (((wonZ S)) k), X.li, X.rr, X.rn, X.dr) : ModN) K) rfl ?_
      rw [show nI (k + 1) = nI ((k + 1)) from congrArg nI (by omega)]
      exact ih16 (k + 1) (by omega) _ (won_up hinv16 rfl)
  exact L16 5 0 (by omega) (paidZ S) (fun j hj => absurd hj (Nat.not_lt_zero j))
