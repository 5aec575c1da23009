set_option maxHeartbeats 4000000 in
set_option maxRecDepth 100000 in
theorem m_X7_statement_3 {l : Launch} {E : XE} (S : SaleN) (X : ModN) (K : Option (Nat → Nat)) (hT : X.ty ≤ 96) (hL : ∀ k, k < X.ty → X.lt k ≤ 255) (hp : X.pl ≤ X.ty) (hw : (rdWord X.lt X.ty X.pl).1 = 3) : MetE l E mX7_statement (8) 0 0 [.ref 0] (modW 0 S X K) (fun r w' => ∃ (z : Int) (pl nu od : Nat) (tt : Nat → Nat), r = some (.int (zI z)) ∧ w' = modW 0 S ((X.rf, X.wo, X.ta, X.ow, X.sl, X.sh, X.lt, X.ty, pl, nu, od, tt, X.oo, X.on, X.wn, X.pd, X.li, X.rr, X.rn, X.dr) : ModN) K ∧ od ≤ 1 ∧ StP X.lt X.ty X.pl z pl od tt) := by
  refine MetE.of (by decide +kernel) (Nat.le_of_ble_eq_true rfl) ?_
  refine ev_eq (lv' := [(0, .ref 0)]) (st' := []) (w' := modW 0 S X K) rfl rfl rfl ?_
  refine ev_b bX7_statement_0_2 (lv' := [(0, .ref 0)]) (st' := [.int (nI (0)), .ref 0]) (w2 := modW 0 S X K) rfl ?_
  refine snd_put (ci := 8) (k := 20) (a := 0) dX7_statement_2 rfl inX7 tyX7_ok nmX7 (by decide) tw_934 rfl rfl (Nat.le_of_ble_eq_true rfl) (fun _ => rfl) (fun _ => rfl) ?_
  refine ev_eq (w' := modW 0 S ((X.rf, X.wo, X.ta, X.ow, X.sl, X.sh, X.lt, X.ty, X.pl, X.nu, 0, X.tt, X.oo, X.on, X.wn, X.pd, X.li, X.rr, X.rn, X.dr) : ModN) K) rfl rfl rfl ?_
  refine ev_b bX7_statement_5_6 (lv' := [(0, .ref 0)]) (st' := [.ref 0]) (w2 := modW 0 S ((X.rf, X.wo, X.ta, X.ow, X.sl, X.sh, X.lt, X.ty, X.pl, X.nu, 0, X.tt, X.oo, X.on, X.wn, X.pd, X.li, X.rr, X.rn, X.dr) : ModN) K) rfl ?_
  refine ev_callM (Yc := mX7_word) (st := []) dX7_statement_6 tw_1028 kX7_word (m_X7_word S ((X.rf, X.wo, X.ta, X.ow, X.sl, X.sh, X.lt, X.ty, X.pl, X.nu, 0, X.tt, X.oo, X.on, X.wn, X.pd, X.li, X.rr, X.rn, X.dr) : ModN) K hT hL hp) rfl rfl rfl rfl (by decide) (Nat.le_of_ble_eq_true rfl) (Nat.le_refl _) (Nat.le_refl _) (fun r w' h => by obtain ⟨-, rfl⟩ := h; exact mod_eq) ?_
  rintro _ _ ⟨rfl, rfl⟩
  refine ev_eq (lv' := [(0, .ref 0)]) (st' := [.int (zI ((if (rdWord X.lt X.ty X.pl).1 = -1 then -9 else (rdWord X.lt X.ty X.pl).1)))]) (w' := modW 0 S ((X.rf, X.wo, X.ta, X.ow, X.sl, X.sh, X.lt, X.ty, (if (rdWord X.lt X.ty X.pl).1 = -1 then X.pl else (rdWord X.lt X.ty X.pl).2.1), X.nu, 0, X.tt, X.oo, X.on, X.wn, X.pd, X.li, X.rr, X.rn, X.dr) : ModN) K) rfl rfl rfl ?_
  refine ev_top (y := (nI (3))) (by rw [show (if (rdWord X.lt X.ty X.pl).1 = -1 then -9 else (rdWord X.lt X.ty X.pl).1) = ((3 : Nat) : Int) from by rw [hw]; rfl]; exact zI_nat _) ?_
  obtain ⟨a0, ea0⟩ : ∃ v, v = (rdWord X.lt X.ty X.pl).2.1 := ⟨_, rfl⟩
  have e0 : (rdWord X.lt X.ty X.pl).2 = (a0, -9) := Prod.ext ea0.symm (word_w (by rw [hw]; decide))
  have c0 : a0 ≤ X.ty := by rw [ea0]; exact (word_ok hp).1
  have ht0 : ∀ j, j < 0 → X.tt j ≤ 99 := fun j hj => absurd hj (Nat.not_lt_zero j)
  refine ev_eq (w' := modW 0 S ((X.rf, X.wo, X.ta, X.ow, X.sl, X.sh, X.lt, X.ty, a0, X.nu, 0, X.tt, X.oo, X.on, X.wn, X.pd, X.li, X.rr, X.rn, X.dr) : ModN) K) rfl rfl (by rw [hw, if_neg (by decide), ← ea0]) ?_
  refine ev_b bX7_statement_9_11 (lv' := [(1, .int (nI (3))), (0, .ref 0)]) (st' := [.int (nI (3))]) (w2 := modW 0 S ((X.rf, X.wo, X.ta, X.ow, X.sl, X.sh, X.lt, X.ty, a0, X.nu, 0, X.tt, X.oo, X.on, X.wn, X.pd, X.li, X.rr, X.rn, X.dr) : ModN) K) rfl ?_
  refine ev_if_ge_n (tgt := 17) (by decide) dX7_statement_11 (by decide) (fun h11 => ?_) (fun h11 => (by exfalso; omega))
  refine ev_b bX7_statement_17_25 (lv' := [(2, .int (nI (0))), (1, .int (nI (3))), (0, .ref 0)]) (st' := [.int (nI (3)), .ref 13, .int (nI (0))]) (w2 := modW 0 S ((X.rf, X.wo, X.ta, X.ow, X.sl, X.sh, X.lt, X.ty, a0, X.nu, 0, X.tt, X.oo, X.on, X.wn, X.pd, X.li, X.rr, X.rn, X.dr) : ModN) K) rfl ?_
  refine ev_sald (b := 8) dX7_statement_25 rfl (by decide) (by decide) (by decide) ?_
  refine ev_callVs (Yc := mJ0_length_8abf5) dX7_statement_26 tw_1043 kJ0_length_8abf5 rfl (i := 8) (by decide) (by decide) (m_J0_length_8abf5 8 18 8 (by decide) (by decide) (by decide)) rfl (st := [.int (nI (0))]) rfl (by decide) (Nat.le_of_ble_eq_true rfl) (Nat.le_refl _) (Nat.le_refl _) ?_
  rintro _ _ ⟨rfl, rfl⟩
  refine ev_eq (lv' := [(2, .int (nI (0))), (1, .int (nI (3))), (0, .ref 0)]) (st' := [.int (nI (2)), .int (nI (0))]) (w' := modW 0 S ((X.rf, X.wo, X.ta, X.ow, X.sl, X.sh, X.lt, X.ty, a0, X.nu, 0, X.tt, X.oo, X.on, X.wn, X.pd, X.li, X.rr, X.rn, X.dr) : ModN) K) rfl rfl rfl ?_
  refine ev_icmp_ge_n (tgt := 77) (by decide) (by decide) dX7_statement_29 (by decide) (fun h29 => (by exfalso; omega)) (fun h29 => ?_)
  refine ev_b bX7_statement_32_35 (lv' := [(2, .int (nI (0))), (1, .int (nI (3))), (0, .ref 0)]) (st' := [.int (nI (32)), .ref 0]) (w2 := modW 0 S ((X.rf, X.wo, X.ta, X.ow, X.sl, X.sh, X.lt, X.ty, a0, X.nu, 0, X.tt, X.oo, X.on, X.wn, X.pd, X.li, X.rr, X.rn, X.dr) : ModN) K) rfl ?_
  refine ev_callM (Yc := mX7_isNext) (st := []) dX7_statement_35 tw_1045 kX7_isNext (m_X7_isNext S ((X.rf, X.wo, X.ta, X.ow, X.sl, X.sh, X.lt, X.ty, a0, X.nu, 0, X.tt, X.oo, X.on, X.wn, X.pd, X.li, X.rr, X.rn, X.dr) : ModN) K 32 hT hL (show a0 ≤ 96 by omega) (by decide)) rfl rfl rfl rfl (by decide) (Nat.le_of_ble_eq_true rfl) (Nat.le_refl _) (Nat.le_refl _) (fun r w' h => by obtain ⟨-, rfl⟩ := h; exact mod_eq) ?_
  rintro _ _ ⟨rfl, rfl⟩
  refine ev_eq (lv' := [(2, .int (nI (0))), (1, .int (nI (3))), (0, .ref 0)]) (st' := [.int (nI (b01 (sgz X.lt X.ty a0 = ((32 : Nat) : Int))))]) (w' := modW 0 S ((X.rf, X.wo, X.ta, X.ow, X.sl, X.sh, X.lt, X.ty, (if sgz X.lt X.ty a0 = ((32 : Nat) : Int) then a0 + 1 else a0), X.nu, 0, X.tt, X.oo, X.on, X.wn, X.pd, X.li, X.rr, X.rn, X.dr) : ModN) K) rfl rfl rfl ?_
  refine ev_ifeq_b (tgt := 58) dX7_statement_38 (by decide) (fun h38 => ?_) (fun h38 => ?_)
  · skip
    refine ev_eq (w' := modW 0 S ((X.rf, X.wo, X.ta, X.ow, X.sl, X.sh, X.lt, X.ty, a0, X.nu, 0, X.tt, X.oo, X.on, X.wn, X.pd, X.li, X.rr, X.rn, X.dr) : ModN) K) rfl rfl (by rw [if_neg h38]) ?_
    have g9 : rdSign X.lt X.ty 32 (rdWord X.lt X.ty X.pl).2 = (a0, ((a0 : Nat) : Int)) := by rw [e0]; exact (if_pos rfl).trans (if_neg h38)
    have fE : stE X.lt X.ty X.pl = (a0, ((a0 : Nat) : Int)) := stg_E (show ((a0 : Nat) : Int) ≠ -9 by omega) (stg_C (show ((a0 : Nat) : Int) ≠ -9 by omega) (stg_B (show ((a0 : Nat) : Int) ≠ -9 by omega) (stg_A (show ((a0 : Nat) : Int) ≠ -9 by omega) g9)))
    refine ev_b bX7_statement_58_60 (lv' := [(2, .int (nI (0))), (1, .int (nI (3))), (0, .ref 0)]) (st' := [.int (-9)]) (w2 := modW 0 S ((X.rf, X.wo, X.ta, X.ow, X.sl, X.sh, X.lt, X.ty, a0, X.nu, 0, X.tt, X.oo, X.on, X.wn, X.pd, X.li, X.rr, X.rn, X.dr) : ModN) K) rfl ?_
    exact ev_iret dX7_statement_60 rfl mod_le (Nat.le_refl _) (Nat.le_refl _) ⟨-9, a0, X.nu, 0, X.tt, by rfl, rfl, by first | decide | omega | exact b01_le, Or.inr ⟨by rw [fE]; show ((a0 : Nat) : Int) ≠ -9; omega, rfl, by rw [fE]⟩⟩
  · skip
    have hs0 := h38
    have d0 : a0 + 1 ≤ X.ty := (sgz_lt (lt := X.lt) (n := X.ty) (p := a0) (by rw [h38]; decide)).1
    have f0 : rdSign X.lt X.ty 32 (rdWord X.lt X.ty X.pl).2 = (a0 + 1, -9) := by rw [e0]; exact (if_pos rfl).trans (if_pos h38)
    refine ev_eq (w' := modW 0 S ((X.rf, X.wo, X.ta, X.ow, X.sl, X.sh, X.lt, X.ty, (a0 + 1), X.nu, 0, X.tt, X.oo, X.on, X.wn, X.pd, X.li, X.rr, X.rn, X.dr) : ModN) K) rfl rfl (by rw [if_pos h38]) ?_
    refine ev_b bX7_statement_41_47 (lv' := [(2, .int (nI (0))), (1, .int (nI (3))), (0, .ref 0)]) (st' := [.int (nI (3)), .ref 13, .ref 0]) (w2 := modW 0 S ((X.rf, X.wo, X.ta, X.ow, X.sl, X.sh, X.lt, X.ty, (a0 + 1), X.nu, 0, X.tt, X.oo, X.on, X.wn, X.pd, X.li, X.rr, X.rn, X.dr) : ModN) K) rfl ?_
    refine ev_sald (b := 8) dX7_statement_47 rfl (by decide) (by decide) (by decide) ?_
    refine ev_b bX7_statement_48_49 (lv' := [(2, .int (nI (0))), (1, .int (nI (3))), (0, .ref 0)]) (st' := [.int (nI (0)), .float 8, .ref 0]) (w2 := modW 0 S ((X.rf, X.wo, X.ta, X.ow, X.sl, X.sh, X.lt, X.ty, (a0 + 1), X.nu, 0, X.tt, X.oo, X.on, X.wn, X.pd, X.li, X.rr, X.rn, X.dr) : ModN) K) rfl ?_
    refine ev_callVs (Yc := mJ0_charAt_5068e) dX7_statement_49 tw_1044 kJ0_charAt_5068e rfl (i := 8) (by decide) (by decide) (m_J0_charAt_5068e 8 18 8 (0) (by decide) (by decide) (by decide) (by decide)) rfl (st := [.ref 0]) rfl (by decide) (Nat.le_of_ble_eq_true rfl) (Nat.le_refl _) (Nat.le_refl _) ?_
    rintro _ _ ⟨rfl, rfl⟩
    refine ev_eq (lv' := [(2, .int (nI (0))), (1, .int (nI (3))), (0, .ref 0)]) (st' := [.int (nI (108)), .ref 0]) (w' := modW 0 S ((X.rf, X.wo, X.ta, X.ow, X.sl, X.sh, X.lt, X.ty, (a0 + 1), X.nu, 0, X.tt, X.oo, X.on, X.wn, X.pd, X.li, X.rr, X.rn, X.dr) : ModN) K) rfl rfl rfl ?_
    refine ev_callM (Yc := mX7_part) (st := []) dX7_statement_52 tw_1049 kX7_part (m_X7_part_l S ((X.rf, X.wo, X.ta, X.ow, X.sl, X.sh, X.lt, X.ty, (a0 + 1), X.nu, 0, X.tt, X.oo, X.on, X.wn, X.pd, X.li, X.rr, X.rn, X.dr) : ModN) K hT hL (show a0 + 1 ≤ 96 by omega) rfl) rfl rfl rfl rfl (by decide) (Nat.le_of_ble_eq_true rfl) (Nat.le_refl _) (Nat.le_refl _) (fun r w' h => by obtain ⟨-, rfl⟩ := h; exact mod_eq) ?_
    rintro _ _ ⟨rfl, rfl⟩
    refine ev_eq (lv' := [(2, .int (nI (0))), (1, .int (nI (3))), (0, .ref 0)]) (st' := [.int (nI (b01 ((rdItem X.lt X.ty (a0 + 1, -9)).2.2 = -9)))]) (w' := modW 0 S ((X.rf, X.wo, X.ta, X.ow, X.sl, X.sh, X.lt, X.ty, (rdItem X.lt X.ty (a0 + 1, -9)).2.1, (if (rdItem X.lt X.ty (a0 + 1, -9)).1 < 6 then (rdItem X.lt X.ty (a0 + 1, -9)).1 else 0), (b01 (6 ≤ (rdItem X.lt X.ty (a0 + 1, -9)).1)), X.tt, X.oo, X.on, X.wn, X.pd, X.li, X.rr, X.rn, X.dr) : ModN) K) rfl rfl rfl ?_
    refine ev_ifne_b (tgt := 61) dX7_statement_55 (by decide) (fun h55 => ?_) (fun h55 => ?_)
    · skip
      have hx0 := h55
      obtain ⟨a1, ea1⟩ : ∃ v, v = (rdItem X.lt X.ty (a0 + 1, -9)).2.1 := ⟨_, rfl⟩
      have c1 : a1 ≤ X.ty := by rw [ea1]; exact (item_ok (lt := X.lt) ⟨d0, Or.inl rfl⟩).1
      have s0 : stA X.lt X.ty X.pl = natZ (rdItem X.lt X.ty (a0 + 1, -9)) := by unfold stA; rw [if_pos hw, f0]
      have e1 : (stA X.lt X.ty X.pl).2 = (a1, -9) := by rw [s0]; exact Prod.ext ea1.symm h55
      obtain ⟨m0, em0⟩ : ∃ v, v = (if (rdItem X.lt X.ty (a0 + 1, -9)).1 < 6 then (rdItem X.lt X.ty (a0 + 1, -9)).1 else 0) := ⟨_, rfl⟩
      have hn0 : m0 ≤ 99 := by rw [em0]; have := item_x (lt := X.lt) (n := X.ty) (q := (a0 + 1, -9)); split <;> omega
      refine ev_eq (w' := modW 0 S ((X.rf, X.wo, X.ta, X.ow, X.sl, X.sh, X.lt, X.ty, a1, m0, (b01 (6 ≤ (rdItem X.lt X.ty (a0 + 1, -9)).1)), X.tt, X.oo, X.on, X.wn, X.pd, X.li, X.rr, X.rn, X.dr) : ModN) K) rfl rfl (by rw [← ea1, ← em0]) ?_
      refine ev_b bX7_statement_61_70 (lv' := [(2, .int (nI (0))), (1, .int (nI (3))), (0, .ref 0)]) (st' := [.int (nI (m0)), .int (nI (0)), .ref 14]) (w2 := modW 0 S ((X.rf, X.wo, X.ta, X.ow, X.sl, X.sh, X.lt, X.ty, a1, m0, (b01 (6 ≤ (rdItem X.lt X.ty (a0 + 1, -9)).1)), X.tt, X.oo, X.on, X.wn, X.pd, X.li, X.rr, X.rn, X.dr) : ModN) K) rfl ?_
      refine ev_iast_n (f := X.tt) dX7_statement_70 rfl (by omega) (by decide) ?_
      refine ev_eq (w' := modW 0 S ((X.rf, X.wo, X.ta, X.ow, X.sl, X.sh, X.lt, X.ty, a1, m0, (b01 (6 ≤ (rdItem X.lt X.ty (a0 + 1, -9)).1)), up X.tt 0 m0, X.oo, X.on, X.wn, X.pd, X.li, X.rr, X.rn, X.dr) : ModN) K) rfl rfl rfl ?_
      have ht1 : ∀ j, j < 1 → (up X.tt 0 m0) j ≤ 99 := up_99 (k := 0) ht0 hn0
      refine ev_iinc_n (x := 0) (v := 1) dX7_statement_71 rfl (by decide) ?_
      refine ev_eq (lv' := [(2, .int (nI (0 + 1))), (1, .int (nI (3))), (0, .ref 0)]) rfl rfl rfl ?_
      refine ev_b bX7_statement_74_25 (lv' := [(2, .int (nI (0 + 1))), (1, .int (nI (3))), (0, .ref 0)]) (st' := [.int (nI (3)), .ref 13, .int (nI (0 + 1))]) (w2 := modW 0 S ((X.rf, X.wo, X.ta, X.ow, X.sl, X.sh, X.lt, X.ty, a1, m0, (b01 (6 ≤ (rdItem X.lt X.ty (a0 + 1, -9)).1)), up X.tt 0 m0, X.oo, X.on, X.wn, X.pd, X.li, X.rr, X.rn, X.dr) : ModN) K) rfl ?_
      refine ev_sald (b := 8) dX7_statement_25 rfl (by decide) (by decide) (by decide) ?_
      refine ev_callVs (Yc := mJ0_length_8abf5) dX7_statement_26 tw_1043 kJ0_length_8abf5 rfl (i := 8) (by decide) (by decide) (m_J0_length_8abf5 8 18 8 (by decide) (by decide) (by decide)) rfl (st := [.int (nI (0 + 1))]) rfl (by decide) (Nat.le_of_ble_eq_true rfl) (Nat.le_refl _) (Nat.le_refl _) ?_
      rintro _ _ ⟨rfl, rfl⟩
      refine ev_eq (lv' := [(2, .int (nI (0 + 1))), (1, .int (nI (3))), (0, .ref 0)]) (st' := [.int (nI (2)), .int (nI (0 + 1))]) (w' := modW 0 S ((X.rf, X.wo, X.ta, X.ow, X.sl, X.sh, X.lt, X.ty, a1, m0, (b01 (6 ≤ (rdItem X.lt X.ty (a0 + 1, -9)).1)), up X.tt 0 m0, X.oo, X.on, X.wn, X.pd, X.li, X.rr, X.rn, X.dr) : ModN) K) rfl rfl rfl ?_
      refine ev_icmp_ge_n (tgt := 77) (by omega) (by decide) dX7_statement_29 (by decide) (fun h29 => (by exfalso; omega)) (fun h29 => ?_)
      refine ev_b bX7_statement_32_35 (lv' := [(2, .int (nI (0 + 1))), (1, .int (nI (3))), (0, .ref 0)]) (st' := [.int (nI (32)), .ref 0]) (w2 := modW 0 S ((X.rf, X.wo, X.ta, X.ow, X.sl, X.sh, X.lt, X.ty, a1, m0, (b01 (6 ≤ (rdItem X.lt X.ty (a0 + 1, -9)).1)), up X.tt 0 m0, X.oo, X.on, X.wn, X.pd, X.li, X.rr, X.rn, X.dr) : ModN) K) rfl ?_
      refine ev_callM (Yc := mX7_isNext) (st := []) dX7_statement_35 tw_1045 kX7_isNext (m_X7_isNext S ((X.rf, X.wo, X.ta, X.ow, X.sl, X.sh, X.lt, X.ty, a1, m0, (b01 (6 ≤ (rdItem X.lt X.ty (a0 + 1, -9)).1)), up X.tt 0 m0, X.oo, X.on, X.wn, X.pd, X.li, X.rr, X.rn, X.dr) : ModN) K 32 hT hL (show a1 ≤ 96 by omega) (by decide)) rfl rfl rfl rfl (by decide) (Nat.le_of_ble_eq_true rfl) (Nat.le_refl _) (Nat.le_refl _) (fun r w' h => by obtain ⟨-, rfl⟩ := h; exact mod_eq) ?_
      rintro _ _ ⟨rfl, rfl⟩
      refine ev_eq (lv' := [(2, .int (nI (0 + 1))), (1, .int (nI (3))), (0, .ref 0)]) (st' := [.int (nI (b01 (sgz X.lt X.ty a1 = ((32 : Nat) : Int))))]) (w' := modW 0 S ((X.rf, X.wo, X.ta, X.ow, X.sl, X.sh, X.lt, X.ty, (if sgz X.lt X.ty a1 = ((32 : Nat) : Int) then a1 + 1 else a1), m0, (b01 (6 ≤ (rdItem X.lt X.ty (a0 + 1, -9)).1)), up X.tt 0 m0, X.oo, X.on, X.wn, X.pd, X.li, X.rr, X.rn, X.dr) : ModN) K) rfl rfl rfl ?_
      refine ev_ifeq_b (tgt := 58) dX7_statement_38 (by decide) (fun h38 => ?_) (fun h38 => ?_)
      · skip
        refine ev_eq (w' := modW 0 S ((X.rf, X.wo, X.ta, X.ow, X.sl, X.sh, X.lt, X.ty, a1, m0, (b01 (6 ≤ (rdItem X.lt X.ty (a0 + 1, -9)).1)), up X.tt 0 m0, X.oo, X.on, X.wn, X.pd, X.li, X.rr, X.rn, X.dr) : ModN) K) rfl rfl (by rw [if_neg h38]) ?_
        have g9 : rdSign X.lt X.ty 32 (stA X.lt X.ty X.pl).2 = (a1, ((a1 : Nat) : Int)) := by rw [e1]; exact (if_pos rfl).trans (if_neg h38)
        have fE : stE X.lt X.ty X.pl = (a1, ((a1 : Nat) : Int)) := stg_E (show ((a1 : Nat) : Int) ≠ -9 by omega) (stg_C (show ((a1 : Nat) : Int) ≠ -9 by omega) (stg_B1 (by rw [hw]; decide) (show ((a1 : Nat) : Int) ≠ -9 by omega) g9))
        refine ev_b bX7_statement_58_60 (lv' := [(2, .int (nI (0 + 1))), (1, .int (nI (3))), (0, .ref 0)]) (st' := [.int (-9)]) (w2 := modW 0 S ((X.rf, X.wo, X.ta, X.ow, X.sl, X.sh, X.lt, X.ty, a1, m0, (b01 (6 ≤ (rdItem X.lt X.ty (a0 + 1, -9)).1)), up X.tt 0 m0, X.oo, X.on, X.wn, X.pd, X.li, X.rr, X.rn, X.dr) : ModN) K) rfl ?_
        exact ev_iret dX7_statement_60 rfl mod_le (Nat.le_refl _) (Nat.le_refl _) ⟨-9, a1, m0, (b01 (6 ≤ (rdItem X.lt X.ty (a0 + 1, -9)).1)), up X.tt 0 m0, by rfl, rfl, by first | decide | omega | exact b01_le, Or.inr ⟨by rw [fE]; show ((a1 : Nat) : Int) ≠ -9; omega, rfl, by rw [fE]⟩⟩
      · skip
        have hs1 := h38
        have d1 : a1 + 1 ≤ X.ty := (sgz_lt (lt := X.lt) (n := X.ty) (p := a1) (by rw [h38]; decide)).1
        have f1 : rdSign X.lt X.ty 32 (stA X.lt X.ty X.pl).2 = (a1 + 1, -9) := by rw [e1]; exact (if_pos rfl).trans (if_pos h38)
        refine ev_eq (w' := modW 0 S ((X.rf, X.wo, X.ta, X.ow, X.sl, X.sh, X.lt, X.ty, (a1 + 1), m0, (b01 (6 ≤ (rdItem X.lt X.ty (a0 + 1, -9)).1)), up X.tt 0 m0, X.oo, X.on, X.wn, X.pd, X.li, X.rr, X.rn, X.dr) : ModN) K) rfl rfl (by rw [if_pos h38]) ?_
        refine ev_b bX7_statement_41_47 (lv' := [(2, .int (nI (0 + 1))), (1, .int (nI (3))), (0, .ref 0)]) (st' := [.int (nI (3)), .ref 13, .ref 0]) (w2 := modW 0 S ((X.rf, X.wo, X.ta, X.ow, X.sl, X.sh, X.lt, X.ty, (a1 + 1), m0, (b01 (6 ≤ (rdItem X.lt X.ty (a0 + 1, -9)).1)), up X.tt 0 m0, X.oo, X.on, X.wn, X.pd, X.li, X.rr, X.rn, X.dr) : ModN) K) rfl ?_
        refine ev_sald (b := 8) dX7_statement_47 rfl (by decide) (by decide) (by decide) ?_
        refine ev_b bX7_statement_48_49 (lv' := [(2, .int (nI (0 + 1))), (1, .int (nI (3))), (0, .ref 0)]) (st' := [.int (nI (0 + 1)), .float 8, .ref 0]) (w2 := modW 0 S ((X.rf, X.wo, X.ta, X.ow, X.sl, X.sh, X.lt, X.ty, (a1 + 1), m0, (b01 (6 ≤ (rdItem X.lt X.ty (a0 + 1, -9)).1)), up X.tt 0 m0, X.oo, X.on, X.wn, X.pd, X.li, X.rr, X.rn, X.dr) : ModN) K) rfl ?_
        refine ev_callVs (Yc := mJ0_charAt_5068e) dX7_statement_49 tw_1044 kJ0_charAt_5068e rfl (i := 8) (by decide) (by decide) (m_J0_charAt_5068e 8 18 8 (0 + 1) (by decide) (by decide) (by decide) (by decide)) rfl (st := [.ref 0]) rfl (by decide) (Nat.le_of_ble_eq_true rfl) (Nat.le_refl _) (Nat.le_refl _) ?_
        rintro _ _ ⟨rfl, rfl⟩
        refine ev_eq (lv' := [(2, .int (nI (0 + 1))), (1, .int (nI (3))), (0, .ref 0)]) (st' := [.int (nI (110)), .ref 0]) (w' := modW 0 S ((X.rf, X.wo, X.ta, X.ow, X.sl, X.sh, X.lt, X.ty, (a1 + 1), m0, (b01 (6 ≤ (rdItem X.lt X.ty (a0 + 1, -9)).1)), up X.tt 0 m0, X.oo, X.on, X.wn, X.pd, X.li, X.rr, X.rn, X.dr) : ModN) K) rfl rfl rfl ?_
        refine ev_callM (Yc := mX7_part) (st := []) dX7_statement_52 tw_1049 kX7_part (m_X7_part_n S ((X.rf, X.wo, X.ta, X.ow, X.sl, X.sh, X.lt, X.ty, (a1 + 1), m0, (b01 (6 ≤ (rdItem X.lt X.ty (a0 + 1, -9)).1)), up X.tt 0 m0, X.oo, X.on, X.wn, X.pd, X.li, X.rr, X.rn, X.dr) : ModN) K hT hL (show a1 + 1 ≤ 96 by omega)) rfl rfl rfl rfl (by decide) (Nat.le_of_ble_eq_true rfl) (Nat.le_refl _) (Nat.le_refl _) (fun r w' h => by obtain ⟨-, rfl⟩ := h; exact mod_eq) ?_
        rintro _ _ ⟨rfl, rfl⟩
        refine ev_eq (lv' := [(2, .int (nI (0 + 1))), (1, .int (nI (3))), (0, .ref 0)]) (st' := [.int (nI (b01 ((rdNum X.lt X.ty (a1 + 1, -9)).2.2 = -9)))]) (w' := modW 0 S ((X.rf, X.wo, X.ta, X.ow, X.sl, X.sh, X.lt, X.ty, (rdNum X.lt X.ty (a1 + 1, -9)).2.1, (rdNum X.lt X.ty (a1 + 1, -9)).1, (b01 (6 ≤ (rdItem X.lt X.ty (a0 + 1, -9)).1)), up X.tt 0 m0, X.oo, X.on, X.wn, X.pd, X.li, X.rr, X.rn, X.dr) : ModN) K) rfl rfl rfl ?_
        refine ev_ifne_b (tgt := 61) dX7_statement_55 (by decide) (fun h55 => ?_) (fun h55 => ?_)
        · skip
          have hx1 := h55
          obtain ⟨a2, ea2⟩ : ∃ v, v = (rdNum X.lt X.ty (a1 + 1, -9)).2.1 := ⟨_, rfl⟩
          have c2 : a2 ≤ X.ty := by rw [ea2]; exact (num_ok (lt := X.lt) ⟨d1, Or.inl rfl⟩).1
          have s1 : stB X.lt X.ty X.pl = natZ (rdNum X.lt X.ty (a1 + 1, -9)) := by unfold stB; rw [if_neg (by rw [hw]; decide), if_neg (by rw [hw]; decide), f1]
          have e2 : (stB X.lt X.ty X.pl).2 = (a2, -9) := by rw [s1]; exact Prod.ext ea2.symm h55
          obtain ⟨m1, em1⟩ : ∃ v, v = (rdNum X.lt X.ty (a1 + 1, -9)).1 := ⟨_, rfl⟩
          have hn1 : m1 ≤ 99 := by rw [em1]; exact num_b
          refine ev_eq (w' := modW 0 S ((X.rf, X.wo, X.ta, X.ow, X.sl, X.sh, X.lt, X.ty, a2, m1, (b01 (6 ≤ (rdItem X.lt X.ty (a0 + 1, -9)).1)), up X.tt 0 m0, X.oo, X.on, X.wn, X.pd, X.li, X.rr, X.rn, X.dr) : ModN) K) rfl rfl (by rw [← ea2, ← em1]) ?_
          refine ev_b bX7_statement_61_70 (lv' := [(2, .int (nI (0 + 1))), (1, .int (nI (3))), (0, .ref 0)]) (st' := [.int (nI (m1)), .int (nI (0 + 1)), .ref 14]) (w2 := modW 0 S ((X.rf, X.wo, X.ta, X.ow, X.sl, X.sh, X.lt, X.ty, a2, m1, (b01 (6 ≤ (rdItem X.lt X.ty (a0 + 1, -9)).1)), up X.tt 0 m0, X.oo, X.on, X.wn, X.pd, X.li, X.rr, X.rn, X.dr) : ModN) K) rfl ?_
          refine ev_iast_n (f := up X.tt 0 m0) dX7_statement_70 rfl (by omega) (by decide) ?_
          refine ev_eq (w' := modW 0 S ((X.rf, X.wo, X.ta, X.ow, X.sl, X.sh, X.lt, X.ty, a2, m1, (b01 (6 ≤ (rdItem X.lt X.ty (a0 + 1, -9)).1)), up (up X.tt 0 m0) (0 + 1) m1, X.oo, X.on, X.wn, X.pd, X.li, X.rr, X.rn, X.dr) : ModN) K) rfl rfl rfl ?_
          have ht2 : ∀ j, j < 2 → (up (up X.tt 0 m0) (0 + 1) m1) j ≤ 99 := up_99 (k := 1) ht1 hn1
          refine ev_iinc_n (x := 0 + 1) (v := 1) dX7_statement_71 rfl (by decide) ?_
          refine ev_eq (lv' := [(2, .int (nI ((0 + 1) + 1))), (1, .int (nI (3))), (0, .ref 0)]) rfl rfl rfl ?_
          refine ev_b bX7_statement_74_25 (lv' := [(2, .int (nI ((0 + 1) + 1))), (1, .int (nI (3))), (0, .ref 0)]) (st' := [.int (nI (3)), .ref 13, .int (nI ((0 + 1) + 1))]) (w2 := modW 0 S ((X.rf, X.wo, X.ta, X.ow, X.sl, X.sh, X.lt, X.ty, a2, m1, (b01 (6 ≤ (rdItem X.lt X.ty (a0 + 1, -9)).1)), up (up X.tt 0 m0) (0 + 1) m1, X.oo, X.on, X.wn, X.pd, X.li, X.rr, X.rn, X.dr) : ModN) K) rfl ?_
          refine ev_sald (b := 8) dX7_statement_25 rfl (by decide) (by decide) (by decide) ?_
          refine ev_callVs (Yc := mJ0_length_8abf5) dX7_statement_26 tw_1043 kJ0_length_8abf5 rfl (i := 8) (by decide) (by decide) (m_J0_length_8abf5 8 18 8 (by decide) (by decide) (by decide)) rfl (st := [.int (nI ((0 + 1) + 1))]) rfl (by decide) (Nat.le_of_ble_eq_true rfl) (Nat.le_refl _) (Nat.le_refl _) ?_
          rintro _ _ ⟨rfl, rfl⟩
          refine ev_eq (lv' := [(2, .int (nI ((0 + 1) + 1))), (1, .int (nI (3))), (0, .ref 0)]) (st' := [.int (nI (2)), .int (nI ((0 + 1) + 1))]) (w' := modW 0 S ((X.rf, X.wo, X.ta, X.ow, X.sl, X.sh, X.lt, X.ty, a2, m1, (b01 (6 ≤ (rdItem X.lt X.ty (a0 + 1, -9)).1)), up (up X.tt 0 m0) (0 + 1) m1, X.oo, X.on, X.wn, X.pd, X.li, X.rr, X.rn, X.dr) : ModN) K) rfl rfl rfl ?_
          refine ev_icmp_ge_n (tgt := 77) (by omega) (by decide) dX7_statement_29 (by decide) (fun h29 => ?_) (fun h29 => (by exfalso; omega))
          have eC : (stC X.lt X.ty X.pl).2 = (a2, -9) := (stg_2 (by rw [hw]; decide)).trans e2
          refine ev_b bX7_statement_77_80 (lv' := [(2, .int (nI ((0 + 1) + 1))), (1, .int (nI (3))), (0, .ref 0)]) (st' := [.int (nI (59)), .ref 0]) (w2 := modW 0 S ((X.rf, X.wo, X.ta, X.ow, X.sl, X.sh, X.lt, X.ty, a2, m1, (b01 (6 ≤ (rdItem X.lt X.ty (a0 + 1, -9)).1)), up (up X.tt 0 m0) (0 + 1) m1, X.oo, X.on, X.wn, X.pd, X.li, X.rr, X.rn, X.dr) : ModN) K) rfl ?_
          refine ev_callM (Yc := mX7_isNext) (st := []) dX7_statement_80 tw_1045 kX7_isNext (m_X7_isNext S ((X.rf, X.wo, X.ta, X.ow, X.sl, X.sh, X.lt, X.ty, a2, m1, (b01 (6 ≤ (rdItem X.lt X.ty (a0 + 1, -9)).1)), up (up X.tt 0 m0) (0 + 1) m1, X.oo, X.on, X.wn, X.pd, X.li, X.rr, X.rn, X.dr) : ModN) K 59 hT hL (show a2 ≤ 96 by omega) (by decide)) rfl rfl rfl rfl (by decide) (Nat.le_of_ble_eq_true rfl) (Nat.le_refl _) (Nat.le_refl _) (fun r w' h => by obtain ⟨-, rfl⟩ := h; exact mod_eq) ?_
          rintro _ _ ⟨rfl, rfl⟩
          refine ev_eq (lv' := [(2, .int (nI ((0 + 1) + 1))), (1, .int (nI (3))), (0, .ref 0)]) (st' := [.int (nI (b01 (sgz X.lt X.ty a2 = ((59 : Nat) : Int))))]) (w' := modW 0 S ((X.rf, X.wo, X.ta, X.ow, X.sl, X.sh, X.lt, X.ty, (if sgz X.lt X.ty a2 = ((59 : Nat) : Int) then a2 + 1 else a2), m1, (b01 (6 ≤ (rdItem X.lt X.ty (a0 + 1, -9)).1)), up (up X.tt 0 m0) (0 + 1) m1, X.oo, X.on, X.wn, X.pd, X.li, X.rr, X.rn, X.dr) : ModN) K) rfl rfl rfl ?_
          refine ev_ifeq_b (tgt := 90) dX7_statement_83 (by decide) (fun h83 => ?_) (fun h83 => ?_)
          · skip
            refine ev_eq (w' := modW 0 S ((X.rf, X.wo, X.ta, X.ow, X.sl, X.sh, X.lt, X.ty, a2, m1, (b01 (6 ≤ (rdItem X.lt X.ty (a0 + 1, -9)).1)), up (up X.tt 0 m0) (0 + 1) m1, X.oo, X.on, X.wn, X.pd, X.li, X.rr, X.rn, X.dr) : ModN) K) rfl rfl (by rw [if_neg h83]) ?_
            have g9 : stE X.lt X.ty X.pl = (a2, ((a2 : Nat) : Int)) := by unfold stE; rw [eC]; exact (if_pos rfl).trans (if_neg h83)
            have fE : stE X.lt X.ty X.pl = (a2, ((a2 : Nat) : Int)) := g9
            refine ev_b bX7_statement_90_92 (lv' := [(2, .int (nI ((0 + 1) + 1))), (1, .int (nI (3))), (0, .ref 0)]) (st' := [.int (-9)]) (w2 := modW 0 S ((X.rf, X.wo, X.ta, X.ow, X.sl, X.sh, X.lt, X.ty, a2, m1, (b01 (6 ≤ (rdItem X.lt X.ty (a0 + 1, -9)).1)), up (up X.tt 0 m0) (0 + 1) m1, X.oo, X.on, X.wn, X.pd, X.li, X.rr, X.rn, X.dr) : ModN) K) rfl ?_
            exact ev_iret dX7_statement_92 rfl mod_le (Nat.le_refl _) (Nat.le_refl _) ⟨-9, a2, m1, (b01 (6 ≤ (rdItem X.lt X.ty (a0 + 1, -9)).1)), up (up X.tt 0 m0) (0 + 1) m1, by rfl, rfl, by first | decide | omega | exact b01_le, Or.inr ⟨by rw [fE]; show ((a2 : Nat) : Int) ≠ -9; omega, rfl, by rw [fE]⟩⟩
          · skip
            have fE : stE X.lt X.ty X.pl = (a2 + 1, -9) := by unfold stE; rw [eC]; exact (if_pos rfl).trans (if_pos h83)
            refine ev_eq (w' := modW 0 S ((X.rf, X.wo, X.ta, X.ow, X.sl, X.sh, X.lt, X.ty, (a2 + 1), m1, (b01 (6 ≤ (rdItem X.lt X.ty (a0 + 1, -9)).1)), up (up X.tt 0 m0) (0 + 1) m1, X.oo, X.on, X.wn, X.pd, X.li, X.rr, X.rn, X.dr) : ModN) K) rfl rfl (by rw [if_pos h83]) ?_
            refine ev_b bX7_statement_86_92 (lv' := [(2, .int (nI ((0 + 1) + 1))), (1, .int (nI (3))), (0, .ref 0)]) (st' := [.int (nI (3))]) (w2 := modW 0 S ((X.rf, X.wo, X.ta, X.ow, X.sl, X.sh, X.lt, X.ty, (a2 + 1), m1, (b01 (6 ≤ (rdItem X.lt X.ty (a0 + 1, -9)).1)), up (up X.tt 0 m0) (0 + 1) m1, X.oo, X.on, X.wn, X.pd, X.li, X.rr, X.rn, X.dr) : ModN) K) rfl ?_
            exact ev_iret dX7_statement_92 rfl mod_le (Nat.le_refl _) (Nat.le_refl _) ⟨3, (a2 + 1), m1, (b01 (6 ≤ (rdItem X.lt X.ty (a0 + 1, -9)).1)), up (up X.tt 0 m0) (0 + 1) m1, by rfl, rfl, by first | decide | omega | exact b01_le, Or.inl ⟨by rw [fE], hw.symm, by rw [fE], Or.inr (Or.inr (Or.inr (Or.inl ⟨hw, fun z => (by have z6 : (rdItem X.lt X.ty (a0 + 1, -9)).1 < 6 := (by have := b01_z0 z; omega); have z7 : m0 = (rdItem X.lt X.ty (a0 + 1, -9)).1 := em0.trans (if_pos z6); exact ⟨by rw [s0]; show (((rdItem X.lt X.ty (a0 + 1, -9)).1 : Nat) : Int) = ((m0 : Nat) : Int); rw [z7], by show m0 < 6; omega⟩), fun z => (by have z6 : 6 ≤ (rdItem X.lt X.ty (a0 + 1, -9)).1 := (by have := b01_z1 z; omega); rw [s0]; show (6 : Int) ≤ (((rdItem X.lt X.ty (a0 + 1, -9)).1 : Nat) : Int); omega), by rw [s1]; show (((rdNum X.lt X.ty (a1 + 1, -9)).1 : Nat) : Int) = _; rw [← em1]; rfl⟩))), by rw [hw]; exact ht2⟩⟩
        · skip
          refine ev_eq (w' := modW 0 S ((X.rf, X.wo, X.ta, X.ow, X.sl, X.sh, X.lt, X.ty, (a1 + 1), (rdNum X.lt X.ty (a1 + 1, -9)).1, (b01 (6 ≤ (rdItem X.lt X.ty (a0 + 1, -9)).1)), up X.tt 0 m0, X.oo, X.on, X.wn, X.pd, X.li, X.rr, X.rn, X.dr) : ModN) K) rfl rfl (by rw [num_ft h55]) ?_
          have s1 : stB X.lt X.ty X.pl = natZ (rdNum X.lt X.ty (a1 + 1, -9)) := by unfold stB; rw [if_neg (by rw [hw]; decide), if_neg (by rw [hw]; decide), f1]
          have g9 : (stB X.lt X.ty X.pl).2 = ((a1 + 1), (((a1 + 1) : Nat) : Int)) := by rw [s1]; exact num_ft h55
          have fE : stE X.lt X.ty X.pl = ((a1 + 1), (((a1 + 1) : Nat) : Int)) := stg_E (show (((a1 + 1) : Nat) : Int) ≠ -9 by omega) (stg_C (show (((a1 + 1) : Nat) : Int) ≠ -9 by omega) g9)
          refine ev_b bX7_statement_58_60 (lv' := [(2, .int (nI (0 + 1))), (1, .int (nI (3))), (0, .ref 0)]) (st' := [.int (-9)]) (w2 := modW 0 S ((X.rf, X.wo, X.ta, X.ow, X.sl, X.sh, X.lt, X.ty, (a1 + 1), (rdNum X.lt X.ty (a1 + 1, -9)).1, (b01 (6 ≤ (rdItem X.lt X.ty (a0 + 1, -9)).1)), up X.tt 0 m0, X.oo, X.on, X.wn, X.pd, X.li, X.rr, X.rn, X.dr) : ModN) K) rfl ?_
          exact ev_iret dX7_statement_60 rfl mod_le (Nat.le_refl _) (Nat.le_refl _) ⟨-9, (a1 + 1), (rdNum X.lt X.ty (a1 + 1, -9)).1, (b01 (6 ≤ (rdItem X.lt X.ty (a0 + 1, -9)).1)), up X.tt 0 m0, by rfl, rfl, by first | decide | omega | exact b01_le, Or.inr ⟨by rw [fE]; show (((a1 + 1) : Nat) : Int) ≠ -9; omega, rfl, by rw [fE]⟩⟩
    · skip
      refine ev_eq (w' := modW 0 S ((X.rf, X.wo, X.ta, X.ow, X.sl, X.sh, X.lt, X.ty, (a0 + 1), (if (rdItem X.lt X.ty (a0 + 1, -9)).1 < 6 then (rdItem X.lt X.ty (a0 + 1, -9)).1 else 0), (b01 (6 ≤ (rdItem X.lt X.ty (a0 + 1, -9)).1)), X.tt, X.oo, X.on, X.wn, X.pd, X.li, X.rr, X.rn, X.dr) : ModN) K) rfl rfl (by rw [item_ft h55]) ?_
      have s0 : stA X.lt X.ty X.pl = natZ (rdItem X.lt X.ty (a0 + 1, -9)) := by unfold stA; rw [if_pos hw, f0]
      have g9 : (stA X.lt X.ty X.pl).2 = ((a0 + 1), (((a0 + 1) : Nat) : Int)) := by rw [s0]; exact item_ft h55
      have fE : stE X.lt X.ty X.pl = ((a0 + 1), (((a0 + 1) : Nat) : Int)) := stg_E (show (((a0 + 1) : Nat) : Int) ≠ -9 by omega) (stg_C (show (((a0 + 1) : Nat) : Int) ≠ -9 by omega) (stg_B (show (((a0 + 1) : Nat) : Int) ≠ -9 by omega) g9))
      refine ev_b bX7_statement_58_60 (lv' := [(2, .int (nI (0))), (1, .int (nI (3))), (0, .ref 0)]) (st' := [.int (-9)]) (w2 := modW 0 S ((X.rf, X.wo, X.ta, X.ow, X.sl, X.sh, X.lt, X.ty, (a0 + 1), (if (rdItem X.lt X.ty (a0 + 1, -9)).1 < 6 then (rdItem X.lt X.ty (a0 + 1, -9)).1 else 0), (b01 (6 ≤ (rdItem X.lt X.ty (a0 + 1, -9)).1)), X.tt, X.oo, X.on, X.wn, X.pd, X.li, X.rr, X.rn, X.dr) : ModN) K) rfl ?_
      exact ev_iret dX7_statement_60 rfl mod_le (Nat.le_refl _) (Nat.le_refl _) ⟨-9, (a0 + 1), (if (rdItem X.lt X.ty (a0 + 1, -9)).1 < 6 then (rdItem X.lt X.ty (a0 + 1, -9)).1 else 0), (b01 (6 ≤ (rdItem X.lt X.ty (a0 + 1, -9)).1)), X.tt, by rfl, rfl, by first | decide | omega | exact b01_le, Or.inr ⟨by rw [fE]; show (((a0 + 1) : Nat) : Int) ≠ -9; omega, rfl, by rw [fE]⟩⟩
