set_option maxHeartbeats 4000000 in
set_option maxRecDepth 100000 in
theorem q_auction_form_s {l : Launch} {E : XE} (S : SaleN) (X : ModN) (kf : Nat → Nat) (C : ScrN) (hS : SaleOK S) (hM : MOK S X) (hL : ∀ k, k < X.ty → X.lt k ≤ 255) (hT : X.ty ≤ 96) (hCl : C.lt = X.lt) (hCz : C.sz = X.ty) (hf : (prsS C).fa ≠ -9) : MetE l E mX7_auction (9) 1 48 [.ref 0] (modW 0 S X (some kf)) (MP S (some kf) (X.lt) (0) (X.rr) (X.rn) (X.rf) (some (.int (zI (-1000 - (prsS C).fa))))) := by
  refine MetE.of (by decide +kernel) (Nat.le_of_ble_eq_true rfl) ?_
  obtain ⟨hG, hF1, hF2, hJ, hSt⟩ := prs_facts hCl hCz hT
  have hfb : 0 ≤ (prsS C).fa ∧ (prsS C).fa ≤ 96 := by
    have h9 := (prs_i (C := C) (by omega)).2.2.1.2
    have h8 := (prs_i (C := C) (by omega)).1
    omega
  have hsn := hSt.1
  refine ev_eq (lv' := [(0, .ref 0)]) (st' := []) (w' := modW 0 S X (some kf)) rfl rfl rfl ?_
  refine ev_b bX7_auction_0_1 (lv' := [(0, .ref 0)]) (st' := [.ref 0]) (w2 := modW 0 S X (some kf)) rfl ?_
  refine ev_callMA (Yc := mX7_rowNow) (st := []) dX7_auction_1 tw_1020 kX7_rowNow (m_X7_rowNow_s S X kf) rfl rfl rfl rfl rfl rfl (Nat.le_of_ble_eq_true rfl) (by decide) (Nat.le_of_ble_eq_true rfl) (by decide) (Nat.le_of_ble_eq_true rfl) (Nat.le_of_ble_eq_true rfl) ?_
  rintro _ _ ⟨rfl, rfl⟩
  refine ev_eq (lv' := [(0, .ref 0)]) (st' := [.ref 20]) (w' := modW 0 S X (some kf) ++ row48 20 ((rowS S))) rfl rfl rfl ?_
  refine ev_b bX7_auction_4_20 (lv' := [(4, .int (nI (1))), (3, .int (nI (0))), (2, .int (nI (X.ty))), (1, .ref 20), (0, .ref 0)]) (st' := []) (w2 := modW 0 S ((X.rf, X.wo, X.ta, X.ow, X.sl, X.sh, X.lt, X.ty, 0, X.nu, X.od, X.tt, X.oo, X.on, X.wn, X.pd, X.li, X.rr, X.rn, X.dr) : ModN) (some kf) ++ row48 20 ((rowS S))) rfl ?_
  have L20 : ∀ (j_ k : Nat), k + j_ = (prsS C).sn → ∀ (nu od : Nat) (tt : Nat → Nat), Ev l E mX7_auction (9) 1 48 (modW 0 S X (some kf)) (MP S (some kf) (X.lt) (0) (X.rr) (X.rn) (X.rf) (some (.int (zI (-1000 - (prsS C).fa))))) 1 48 20 [(3, .int (nI (k))), (4, .int (nI (1))), (0, .ref 0), (1, .ref 20), (2, .int (nI (X.ty)))] [] (modW 0 S ((X.rf, X.wo, X.ta, X.ow, X.sl, X.sh, X.lt, X.ty, (plc X.lt X.ty k), nu, od, tt, X.oo, X.on, X.wn, X.pd, X.li, X.rr, X.rn, X.dr) : ModN) (some kf) ++ row48 20 ((rowS S))) := by
    intro j_
    induction j_ with
    | zero =>
      intro k hk20 nu od tt 
      replace hk20 : k = (prsS C).sn := hk20
      skip
      refine ev_b bX7_auction_20_22 (lv' := [(3, .int (nI (k))), (4, .int (nI (1))), (0, .ref 0), (1, .ref 20), (2, .int (nI (X.ty)))]) (st' := [.int (nI (1))]) (w2 := modW 0 S ((X.rf, X.wo, X.ta, X.ow, X.sl, X.sh, X.lt, X.ty, (plc X.lt X.ty k), nu, od, tt, X.oo, X.on, X.wn, X.pd, X.li, X.rr, X.rn, X.dr) : ModN) (some kf) ++ row48 20 ((rowS S))) rfl ?_
      refine ev_if_eq_n (tgt := 79) (by decide) dX7_auction_22 (by decide) (fun h22 => (by exfalso; omega)) (fun h22 => ?_)
      refine ev_b bX7_auction_25_26 (lv' := [(3, .int (nI (k))), (4, .int (nI (1))), (0, .ref 0), (1, .ref 20), (2, .int (nI (X.ty)))]) (st' := [.ref 0]) (w2 := modW 0 S ((X.rf, X.wo, X.ta, X.ow, X.sl, X.sh, X.lt, X.ty, (plc X.lt X.ty k), nu, od, tt, X.oo, X.on, X.wn, X.pd, X.li, X.rr, X.rn, X.dr) : ModN) (some kf) ++ row48 20 ((rowS S))) rfl ?_
      refine ev_callP (Yc := mX7_statement) (st := []) (A := modW 0 S ((X.rf, X.wo, X.ta, X.ow, X.sl, X.sh, X.lt, X.ty, (plc X.lt X.ty k), nu, od, tt, X.oo, X.on, X.wn, X.pd, X.li, X.rr, X.rn, X.dr) : ModN) (some kf)) (R := row48 20 ((rowS S))) dX7_auction_26 tw_1024 kX7_statement (m_X7_statement_any S ((X.rf, X.wo, X.ta, X.ow, X.sl, X.sh, X.lt, X.ty, (plc X.lt X.ty k), nu, od, tt, X.oo, X.on, X.wn, X.pd, X.li, X.rr, X.rn, X.dr) : ModN) (some kf) hT hL (plc_le k)) rfl rfl rfl mod_xek rfl rfl (by decide) (Nat.le_of_ble_eq_true rfl) (Nat.le_of_ble_eq_true rfl) (Nat.le_of_ble_eq_true rfl) (fun r w' h => by obtain ⟨z, pl, nu, od, tt, rfl, rfl, -⟩ := h; exact ⟨mod_eq, mod_xek, rfl⟩) ?_
      rintro _ _ ⟨z, pl1, nu1, od1, tt1, rfl, rfl, ho1, hP⟩
      refine ev_eq (lv' := [(3, .int (nI (k))), (4, .int (nI (1))), (0, .ref 0), (1, .ref 20), (2, .int (nI (X.ty)))]) (st' := [.int (zI (z))]) (w' := modW 0 S ((X.rf, X.wo, X.ta, X.ow, X.sl, X.sh, X.lt, X.ty, pl1, nu1, od1, tt1, X.oo, X.on, X.wn, X.pd, X.li, X.rr, X.rn, X.dr) : ModN) (some kf) ++ row48 20 ((rowS S))) rfl rfl rfl ?_
      have hbad : (stE X.lt X.ty (plc X.lt X.ty k)).2 ≠ -9 := by rw [hk20, ← hF1 hf]; exact hf
      obtain ⟨hz, hpl⟩ := stp_bad hP hbad
      refine ev_if_lt_z (tgt := 36) (by constructor <;> omega) dX7_auction_29 (by decide) (fun h29 => ?_) (fun h29 => (by exfalso; omega))
      refine ev_b bX7_auction_36_41 (lv' := [(4, .int (nI (0))), (3, .int (nI (k))), (0, .ref 0), (1, .ref 20), (2, .int (nI (X.ty)))]) (st' := [.int (nI (0))]) (w2 := modW 0 S ((X.rf, X.wo, X.ta, X.ow, X.sl, X.sh, X.lt, X.ty, pl1, nu1, od1, tt1, X.oo, X.on, X.wn, X.pd, X.li, X.rr, X.rn, X.dr) : ModN) (some kf) ++ row48 20 ((rowS S))) rfl ?_
      refine ev_if_ne_n (tgt := 58) (by decide) dX7_auction_41 (by decide) (fun h41 => (by exfalso; omega)) (fun h41 => ?_)
      refine ev_b bX7_auction_44_53 (lv' := [(4, .int (nI (0))), (3, .int (nI (k))), (0, .ref 0), (1, .ref 20), (2, .int (nI (X.ty)))]) (st' := [.int ((-1000) - (nI (pl1))), .ref 0]) (w2 := modW 0 S ((X.rf, X.wo, X.ta, X.ow, X.sl, X.sh, X.lt, X.ty, pl1, nu1, od1, tt1, X.oo, X.on, X.wn, X.pd, X.li, X.rr, X.rn, X.dr) : ModN) (some kf) ++ row48 20 ((rowS S))) rfl ?_
      refine ev_top (y := zI (-1000 - (prsS C).fa)) (by rw [hF1 hf, ← hk20]; rw [← hpl, ← sub_z]; rfl) ?_
      refine ev_b bX7_auction_53_54 (lv' := [(4, .int (nI (0))), (3, .int (nI (k))), (0, .ref 0), (1, .ref 20), (2, .int (nI (X.ty)))]) (st' := [.ref 20, .int (zI (-1000 - (prsS C).fa)), .ref 0]) (w2 := modW 0 S ((X.rf, X.wo, X.ta, X.ow, X.sl, X.sh, X.lt, X.ty, pl1, nu1, od1, tt1, X.oo, X.on, X.wn, X.pd, X.li, X.rr, X.rn, X.dr) : ModN) (some kf) ++ row48 20 ((rowS S))) rfl ?_
      refine ev_callM (Yc := mX7_faults) (st := []) dX7_auction_54 tw_1060 kX7_faults (m_X7_faults_s S ((X.rf, X.wo, X.ta, X.ow, X.sl, X.sh, X.lt, X.ty, pl1, nu1, od1, tt1, X.oo, X.on, X.wn, X.pd, X.li, X.rr, X.rn, X.dr) : ModN) kf S (-1000 - (prsS C).fa)) rfl rfl rfl rfl (by decide) (Nat.le_of_ble_eq_true rfl) (Nat.le_of_ble_eq_true rfl) (Nat.le_of_ble_eq_true rfl) (fun r w' h => by obtain ⟨-, rfl⟩ := h; rfl) ?_
      rintro _ _ ⟨rfl, rfl⟩
      refine ev_eq (lv' := [(4, .int (nI (0))), (3, .int (nI (k))), (0, .ref 0), (1, .ref 20), (2, .int (nI (X.ty)))]) (st' := [.int (zI (-1000 - (prsS C).fa))]) (w' := modW 0 S ((X.rf, X.wo, X.ta, X.ow, 1, X.sh, X.lt, 0, pl1, nu1, od1, tt1, X.oo, X.on, X.wn, X.pd, X.li, X.rr, X.rn, X.dr) : ModN) (some kf) ++ row48 20 ((rowS S))) rfl rfl rfl ?_
      refine ev_drop ?_
      exact ev_iret dX7_auction_57 rfl mod_le (Nat.le_of_ble_eq_true rfl) (Nat.le_of_ble_eq_true rfl) ⟨rfl, _, rfl, mok_stale hM.1 rfl, rfl, rfl, rfl, rfl, rfl⟩
    | succ j_ ih20 =>
      intro k hk20 nu od tt 
      have hlt20 : k < (prsS C).sn := by omega
      refine ev_b bX7_auction_20_22 (lv' := [(3, .int (nI (k))), (4, .int (nI (1))), (0, .ref 0), (1, .ref 20), (2, .int (nI (X.ty)))]) (st' := [.int (nI (1))]) (w2 := modW 0 S ((X.rf, X.wo, X.ta, X.ow, X.sl, X.sh, X.lt, X.ty, (plc X.lt X.ty k), nu, od, tt, X.oo, X.on, X.wn, X.pd, X.li, X.rr, X.rn, X.dr) : ModN) (some kf) ++ row48 20 ((rowS S))) rfl ?_
      refine ev_if_eq_n (tgt := 79) (by decide) dX7_auction_22 (by decide) (fun h22 => (by exfalso; omega)) (fun h22 => ?_)
      refine ev_b bX7_auction_25_26 (lv' := [(3, .int (nI (k))), (4, .int (nI (1))), (0, .ref 0), (1, .ref 20), (2, .int (nI (X.ty)))]) (st' := [.ref 0]) (w2 := modW 0 S ((X.rf, X.wo, X.ta, X.ow, X.sl, X.sh, X.lt, X.ty, (plc X.lt X.ty k), nu, od, tt, X.oo, X.on, X.wn, X.pd, X.li, X.rr, X.rn, X.dr) : ModN) (some kf) ++ row48 20 ((rowS S))) rfl ?_
      refine ev_callP (Yc := mX7_statement) (st := []) (A := modW 0 S ((X.rf, X.wo, X.ta, X.ow, X.sl, X.sh, X.lt, X.ty, (plc X.lt X.ty k), nu, od, tt, X.oo, X.on, X.wn, X.pd, X.li, X.rr, X.rn, X.dr) : ModN) (some kf)) (R := row48 20 ((rowS S))) dX7_auction_26 tw_1024 kX7_statement (m_X7_statement_any S ((X.rf, X.wo, X.ta, X.ow, X.sl, X.sh, X.lt, X.ty, (plc X.lt X.ty k), nu, od, tt, X.oo, X.on, X.wn, X.pd, X.li, X.rr, X.rn, X.dr) : ModN) (some kf) hT hL (plc_le k)) rfl rfl rfl mod_xek rfl rfl (by decide) (Nat.le_of_ble_eq_true rfl) (Nat.le_of_ble_eq_true rfl) (Nat.le_of_ble_eq_true rfl) (fun r w' h => by obtain ⟨z, pl, nu, od, tt, rfl, rfl, -⟩ := h; exact ⟨mod_eq, mod_xek, rfl⟩) ?_
      rintro _ _ ⟨z, pl1, nu1, od1, tt1, rfl, rfl, ho1, hP⟩
      refine ev_eq (lv' := [(3, .int (nI (k))), (4, .int (nI (1))), (0, .ref 0), (1, .ref 20), (2, .int (nI (X.ty)))]) (st' := [.int (zI (z))]) (w' := modW 0 S ((X.rf, X.wo, X.ta, X.ow, X.sl, X.sh, X.lt, X.ty, pl1, nu1, od1, tt1, X.oo, X.on, X.wn, X.pd, X.li, X.rr, X.rn, X.dr) : ModN) (some kf) ++ row48 20 ((rowS S))) rfl rfl rfl ?_
      obtain ⟨hz, hpl, hm, hb, hz1, hz2⟩ := stp_good hP (hG k hlt20).2.2.2.2.2
      have hpn : pl1 < X.ty := by
        have e1 : pl1 = plc X.lt X.ty (k + 1) := hpl
        rw [e1]
        by_cases e2 : k + 1 = (prsS C).sn
        · rw [e2]; exact hJ.2.1 hf (by omega)
        · exact hJ.1 (k + 1) (by omega) (by omega)
      refine ev_if_lt_z (tgt := 36) (by constructor <;> omega) dX7_auction_29 (by decide) (fun h29 => (by exfalso; omega)) (fun h29 => ?_)
      refine ev_b bX7_auction_32_41 (lv' := [(4, .int (nI (1))), (3, .int (nI (k))), (0, .ref 0), (1, .ref 20), (2, .int (nI (X.ty)))]) (st' := [.int (nI (1))]) (w2 := modW 0 S ((X.rf, X.wo, X.ta, X.ow, X.sl, X.sh, X.lt, X.ty, pl1, nu1, od1, tt1, X.oo, X.on, X.wn, X.pd, X.li, X.rr, X.rn, X.dr) : ModN) (some kf) ++ row48 20 ((rowS S))) rfl ?_
      refine ev_if_ne_n (tgt := 58) (by decide) dX7_auction_41 (by decide) (fun h41 => ?_) (fun h41 => (by exfalso; omega))
      refine ev_iinc_n (x := k) (v := 1) dX7_auction_58 rfl (by decide) ?_
      refine ev_eq (lv' := [(3, .int (nI (k + 1))), (4, .int (nI (1))), (0, .ref 0), (1, .ref 20), (2, .int (nI (X.ty)))]) rfl rfl rfl ?_
      refine ev_b bX7_auction_61_66 (lv' := [(3, .int (nI (k + 1))), (4, .int (nI (1))), (0, .ref 0), (1, .ref 20), (2, .int (nI (X.ty)))]) (st' := [.int (nI (X.ty)), .int (nI (pl1))]) (w2 := modW 0 S ((X.rf, X.wo, X.ta, X.ow, X.sl, X.sh, X.lt, X.ty, pl1, nu1, od1, tt1, X.oo, X.on, X.wn, X.pd, X.li, X.rr, X.rn, X.dr) : ModN) (some kf) ++ row48 20 ((rowS S))) rfl ?_
      refine ev_icmp_ge_n (tgt := 73) (by omega) (by omega) dX7_auction_66 (by decide) (fun h66 => (by exfalso; omega)) (fun h66 => ?_)
      refine ev_b bX7_auction_69_74 (lv' := [(3, .int (nI (k + 1))), (4, .int (nI (1))), (0, .ref 0), (1, .ref 20), (2, .int (nI (X.ty)))]) (st' := [.int (nI (1))]) (w2 := modW 0 S ((X.rf, X.wo, X.ta, X.ow, X.sl, X.sh, X.lt, X.ty, pl1, nu1, od1, tt1, X.oo, X.on, X.wn, X.pd, X.li, X.rr, X.rn, X.dr) : ModN) (some kf) ++ row48 20 ((rowS S))) rfl ?_
      refine ev_eq (w' := modW 0 S ((X.rf, X.wo, X.ta, X.ow, X.sl, X.sh, X.lt, X.ty, (plc X.lt X.ty (k + 1)), nu1, od1, tt1, X.oo, X.on, X.wn, X.pd, X.li, X.rr, X.rn, X.dr) : ModN) (some kf) ++ row48 20 ((rowS S))) rfl rfl (by rw [hpl] <;> rfl) ?_
      refine ev_b bX7_auction_74_20 (lv' := [(4, .int (nI (1))), (3, .int (nI (k + 1))), (0, .ref 0), (1, .ref 20), (2, .int (nI (X.ty)))]) (st' := []) (w2 := modW 0 S ((X.rf, X.wo, X.ta, X.ow, X.sl, X.sh, X.lt, X.ty, (plc X.lt X.ty (k + 1)), nu1, od1, tt1, X.oo, X.on, X.wn, X.pd, X.li, X.rr, X.rn, X.dr) : ModN) (some kf) ++ row48 20 ((rowS S))) rfl ?_
      refine ev_pick (lv' := [(3, .int (nI (k + 1))), (4, .int (nI (1))), (0, .ref 0), (1, .ref 20), (2, .int (nI (X.ty)))]) rfl ?_
      rw [show nI (k + 1) = nI ((k + 1)) from congrArg nI (by omega)]
      exact ih20 (k + 1) (by omega) nu1 od1 tt1
  refine ev_pick (lv' := [(3, .int (nI (0))), (4, .int (nI (1))), (0, .ref 0), (1, .ref 20), (2, .int (nI (X.ty)))]) rfl ?_
  exact L20 ((prsS C).sn) 0 (by omega) X.nu X.od X.tt
set_option maxHeartbeats 4000000 in
set_option maxRecDepth 100000 in
theorem q_auction_rest_s {l : Launch} {E : XE} (S : SaleN) (X : ModN) (kf : Nat → Nat) (C : ScrN) (hS : SaleOK S) (hM : MOK S X) (hL : ∀ k, k < X.ty → X.lt k ≤ 255) (hT : X.ty ≤ 96) (hCl : C.lt = X.lt) (hCz : C.sz = X.ty) (hf : (prsS C).fa = -9) : MetE l E mX7_auction (9) 1 48 [.ref 0] (modW 0 S X (some kf)) (MP (obS (prsS C) S) (some kf) (X.lt) (0) (X.rr) (X.rn) (X.rf) (some (.int (zI (obZ (prsS C) S))))) := by
  refine MetE.of (by decide +kernel) (Nat.le_of_ble_eq_true rfl) ?_
  obtain ⟨hG, hF1, hF2, hJ, hSt⟩ := prs_facts hCl hCz hT
  have hend := hF2 hf
  have hsn0 := hJ.2.2 hf
  have hsn := hSt.1
  refine ev_eq (lv' := [(0, .ref 0)]) (st' := []) (w' := modW 0 S X (some kf)) rfl rfl rfl ?_
  refine ev_b bX7_auction_0_1 (lv' := [(0, .ref 0)]) (st' := [.ref 0]) (w2 := modW 0 S X (some kf)) rfl ?_
  refine ev_callMA (Yc := mX7_rowNow) (st := []) dX7_auction_1 tw_1020 kX7_rowNow (m_X7_rowNow_s S X kf) rfl rfl rfl rfl rfl rfl (Nat.le_of_ble_eq_true rfl) (by decide) (Nat.le_of_ble_eq_true rfl) (by decide) (Nat.le_of_ble_eq_true rfl) (Nat.le_of_ble_eq_true rfl) ?_
  rintro _ _ ⟨rfl, rfl⟩
  refine ev_eq (lv' := [(0, .ref 0)]) (st' := [.ref 20]) (w' := modW 0 S X (some kf) ++ row48 20 ((rowS S))) rfl rfl rfl ?_
  refine ev_b bX7_auction_4_20 (lv' := [(4, .int (nI (1))), (3, .int (nI (0))), (2, .int (nI (X.ty))), (1, .ref 20), (0, .ref 0)]) (st' := []) (w2 := modW 0 S ((X.rf, X.wo, X.ta, X.ow, X.sl, X.sh, X.lt, X.ty, 0, X.nu, X.od, X.tt, X.oo, X.on, X.wn, X.pd, X.li, X.rr, X.rn, X.dr) : ModN) (some kf) ++ row48 20 ((rowS S))) rfl ?_
  have L20 : ∀ (j_ k : Nat), k + j_ = (prsS C).sn → ∀ (nu od : Nat) (tt : Nat → Nat), Ev l E mX7_auction (9) 1 48 (modW 0 S X (some kf)) (MP (obS (prsS C) S) (some kf) (X.lt) (0) (X.rr) (X.rn) (X.rf) (some (.int (zI (obZ (prsS C) S))))) 1 48 20 [(3, .int (nI (k))), (4, .int (nI (b01 (k < (prsS C).sn)))), (0, .ref 0), (1, .ref 20), (2, .int (nI (X.ty)))] [] (modW 0 S ((X.rf, X.wo, X.ta, X.ow, X.sl, X.sh, X.lt, X.ty, (plc X.lt X.ty k), nu, od, tt, X.oo, X.on, X.wn, X.pd, X.li, X.rr, X.rn, X.dr) : ModN) (some kf) ++ row48 20 ((rowS S))) := by
    intro j_
    induction j_ with
    | zero =>
      intro k hk20 nu od tt 
      replace hk20 : k = (prsS C).sn := hk20
      refine ev_b bX7_auction_20_22 (lv' := [(3, .int (nI (k))), (4, .int (nI (b01 (k < (prsS C).sn)))), (0, .ref 0), (1, .ref 20), (2, .int (nI (X.ty)))]) (st' := [.int (nI (b01 (k < (prsS C).sn)))]) (w2 := modW 0 S ((X.rf, X.wo, X.ta, X.ow, X.sl, X.sh, X.lt, X.ty, (plc X.lt X.ty k), nu, od, tt, X.oo, X.on, X.wn, X.pd, X.li, X.rr, X.rn, X.dr) : ModN) (some kf) ++ row48 20 ((rowS S))) rfl ?_
      refine ev_ifeq_b (tgt := 79) dX7_auction_22 (by decide) (fun h22 => ?_) (fun h22 => (by exfalso; omega))
      refine ev_b bX7_auction_79_87 (lv' := [(5, .int (nI (0))), (3, .int (nI (k))), (4, .int (nI (b01 (k < (prsS C).sn)))), (0, .ref 0), (1, .ref 20), (2, .int (nI (X.ty)))]) (st' := []) (w2 := modW 0 S ((X.rf, X.wo, X.ta, X.ow, X.sl, X.sh, X.lt, X.ty, 0, nu, od, tt, X.oo, X.on, X.wn, X.pd, X.li, X.rr, X.rn, X.dr) : ModN) (some kf) ++ row48 20 ((rowS S))) rfl ?_
      have L87 : ∀ (j_ j : Nat), j + j_ = (prsS C).sn → ∀ (U : SaleN) (nu2 od2 sl2 : Nat) (tt2 : Nat → Nat), (SaleOK U ∧ oGo (prsS C) ((prsS C).sn - j) j U = oGo (prsS C) (prsS C).sn 0 S ∧ (0 < j → sl2 = 1)) → Ev l E mX7_auction (9) 1 48 (modW 0 S X (some kf)) (MP (obS (prsS C) S) (some kf) (X.lt) (0) (X.rr) (X.rn) (X.rf) (some (.int (zI (obZ (prsS C) S))))) 1 48 87 [(5, .int (nI (j))), (0, .ref 0), (1, .ref 20), (2, .int (nI (X.ty))), (3, .int (nI (k)))] [] (modW 0 U ((X.rf, X.wo, X.ta, X.ow, sl2, X.sh, X.lt, X.ty, (plc X.lt X.ty j), nu2, od2, tt2, X.oo, X.on, X.wn, X.pd, X.li, X.rr, X.rn, X.dr) : ModN) (some kf) ++ row48 20 ((rowS S))) := by
        intro j_
        induction j_ with
        | zero =>
          intro j hk87 U nu2 od2 sl2 tt2 hinv87
          replace hk87 : j = (prsS C).sn := hk87
          refine ev_b bX7_auction_87_90 (lv' := [(5, .int (nI (j))), (0, .ref 0), (1, .ref 20), (2, .int (nI (X.ty))), (3, .int (nI (k)))]) (st' := [.int (nI (k)), .int (nI (j))]) (w2 := modW 0 U ((X.rf, X.wo, X.ta, X.ow, sl2, X.sh, X.lt, X.ty, (plc X.lt X.ty j), nu2, od2, tt2, X.oo, X.on, X.wn, X.pd, X.li, X.rr, X.rn, X.dr) : ModN) (some kf) ++ row48 20 ((rowS S))) rfl ?_
          refine ev_icmp_ge_n (tgt := 138) (by omega) (by omega) dX7_auction_90 (by decide) (fun h90 => ?_) (fun h90 => (by exfalso; omega))
          refine ev_b bX7_auction_138_143 (lv' := [(5, .int (nI (j))), (0, .ref 0), (1, .ref 20), (2, .int (nI (X.ty))), (3, .int (nI (k)))]) (st' := []) (w2 := modW 0 U ((X.rf, X.wo, X.ta, X.ow, sl2, X.sh, X.lt, 0, (plc X.lt X.ty j), nu2, od2, tt2, X.oo, X.on, X.wn, X.pd, X.li, X.rr, X.rn, X.dr) : ModN) (some kf) ++ row48 20 ((rowS S))) rfl ?_
          have hoe := og_end (C := prsS C) (U := U) (S := S) (by have h9 := hinv87.2.1; rw [hk87] at h9; exact h9)
          have hU := hinv87.1
          have hsl := hinv87.2.2 (by omega)
          refine ev_drop ?_
          refine ev_b bX7_auction_143_144 (lv' := [(5, .int (nI (j))), (0, .ref 0), (1, .ref 20), (2, .int (nI (X.ty))), (3, .int (nI (k)))]) (st' := [.int (nI (k))]) (w2 := modW 0 U ((X.rf, X.wo, X.ta, X.ow, sl2, X.sh, X.lt, 0, (plc X.lt X.ty j), nu2, od2, tt2, X.oo, X.on, X.wn, X.pd, X.li, X.rr, X.rn, X.dr) : ModN) (some kf)) rfl ?_
          exact ev_iret dX7_auction_144 rfl mod_le (Nat.le_of_ble_eq_true rfl) (Nat.le_of_ble_eq_true rfl) (by rw [hoe.2, hoe.1]; exact ⟨by rw [hk20]; exact congrArg (fun t => some (Value.int t)) (zI_nat _).symm, _, rfl, mok_stale hM.1 hsl, rfl, rfl, rfl, rfl, rfl⟩)
        | succ j_ ih87 =>
          intro j hk87 U nu2 od2 sl2 tt2 hinv87
          have hlt87 : j < (prsS C).sn := by omega
          refine ev_b bX7_auction_87_90 (lv' := [(5, .int (nI (j))), (0, .ref 0), (1, .ref 20), (2, .int (nI (X.ty))), (3, .int (nI (k)))]) (st' := [.int (nI (k)), .int (nI (j))]) (w2 := modW 0 U ((X.rf, X.wo, X.ta, X.ow, sl2, X.sh, X.lt, X.ty, (plc X.lt X.ty j), nu2, od2, tt2, X.oo, X.on, X.wn, X.pd, X.li, X.rr, X.rn, X.dr) : ModN) (some kf) ++ row48 20 ((rowS S))) rfl ?_
          refine ev_icmp_ge_n (tgt := 138) (by omega) (by omega) dX7_auction_90 (by decide) (fun h90 => (by exfalso; omega)) (fun h90 => ?_)
          refine ev_b bX7_auction_93_100 (lv' := [(6, .int (nI ((plc X.lt X.ty j)))), (5, .int (nI (j))), (0, .ref 0), (1, .ref 20), (2, .int (nI (X.ty))), (3, .int (nI (k)))]) (st' := [.ref 0]) (w2 := modW 0 U ((X.rf, X.wo, X.ta, X.ow, sl2, X.sh, X.lt, X.ty, (plc X.lt X.ty j), nu2, od2, tt2, X.oo, X.on, X.wn, X.pd, X.li, X.rr, X.rn, X.dr) : ModN) (some kf) ++ row48 20 ((rowS S))) rfl ?_
          refine ev_callP (Yc := mX7_statement) (st := []) (A := modW 0 U ((X.rf, X.wo, X.ta, X.ow, sl2, X.sh, X.lt, X.ty, (plc X.lt X.ty j), nu2, od2, tt2, X.oo, X.on, X.wn, X.pd, X.li, X.rr, X.rn, X.dr) : ModN) (some kf)) (R := row48 20 ((rowS S))) dX7_auction_100 tw_1024 kX7_statement (m_X7_statement_any U ((X.rf, X.wo, X.ta, X.ow, sl2, X.sh, X.lt, X.ty, (plc X.lt X.ty j), nu2, od2, tt2, X.oo, X.on, X.wn, X.pd, X.li, X.rr, X.rn, X.dr) : ModN) (some kf) hT hL (plc_le j)) rfl rfl rfl mod_xek rfl rfl (by decide) (Nat.le_of_ble_eq_true rfl) (Nat.le_of_ble_eq_true rfl) (Nat.le_of_ble_eq_true rfl) (fun r w' h => by obtain ⟨z, pl, nu, od, tt, rfl, rfl, -⟩ := h; exact ⟨mod_eq, mod_xek, rfl⟩) ?_
          rintro _ _ ⟨z, pl1, nu1, od1, tt1, rfl, rfl, ho1, hP⟩
          refine ev_eq (lv' := [(6, .int (nI ((plc X.lt X.ty j)))), (5, .int (nI (j))), (0, .ref 0), (1, .ref 20), (2, .int (nI (X.ty))), (3, .int (nI (k)))]) (st' := [.int (zI (z))]) (w' := modW 0 U ((X.rf, X.wo, X.ta, X.ow, sl2, X.sh, X.lt, X.ty, pl1, nu1, od1, tt1, X.oo, X.on, X.wn, X.pd, X.li, X.rr, X.rn, X.dr) : ModN) (some kf) ++ row48 20 ((rowS S))) rfl rfl rfl ?_
          obtain ⟨hz, hpl, hm0, hb, hz1, hz2⟩ := stp_good hP (hG j hlt87).2.2.2.2.2
          have hm : StM ((prsS C).wd j) ((prsS C).f1 j) ((prsS C).f2 j) ((prsS C).f3 j) od1 tt1 := by
            obtain ⟨-, g1, g2, g3, g4, -⟩ := hG j hlt87
            rw [g1, g2, g3, g4, ← hz]
            exact hm0
          have hzw : z = (prsS C).wd j := hz.trans (hG j hlt87).2.1.symm
          have hUca := hinv87.1.1
          refine ev_b bX7_auction_103_108 (lv' := [(7, .int (zI (z))), (6, .int (nI ((plc X.lt X.ty j)))), (5, .int (nI (j))), (0, .ref 0), (1, .ref 20), (2, .int (nI (X.ty))), (3, .int (nI (k)))]) (st' := [.int (zI (z)), .ref 0]) (w2 := modW 0 U ((X.rf, X.wo, X.ta, X.ow, sl2, X.sh, X.lt, X.ty, pl1, nu1, od1, tt1, X.oo, X.on, X.wn, X.pd, X.li, X.rr, X.rn, X.dr) : ModN) (some kf) ++ row48 20 ((rowS S))) rfl ?_
          refine ev_callP (Yc := mX7_fits) (st := []) (A := modW 0 U ((X.rf, X.wo, X.ta, X.ow, sl2, X.sh, X.lt, X.ty, pl1, nu1, od1, tt1, X.oo, X.on, X.wn, X.pd, X.li, X.rr, X.rn, X.dr) : ModN) (some kf)) (R := row48 20 ((rowS S))) dX7_auction_108 tw_1068 kX7_fits (m_X7_fits_any U ((X.rf, X.wo, X.ta, X.ow, sl2, X.sh, X.lt, X.ty, pl1, nu1, od1, tt1, X.oo, X.on, X.wn, X.pd, X.li, X.rr, X.rn, X.dr) : ModN) (some kf) z ⟨hz1, hz2⟩ hb ho1 hUca) rfl rfl rfl mod_xek rfl rfl (by decide) (Nat.le_of_ble_eq_true rfl) (Nat.le_of_ble_eq_true rfl) (Nat.le_of_ble_eq_true rfl) (fun r w' h => by obtain ⟨rfl, rfl⟩ := h; exact ⟨mod_eq, mod_xek, rfl⟩) ?_
          rintro _ _ ⟨rfl, rfl⟩
          refine ev_eq (lv' := [(7, .int (zI (z))), (6, .int (nI ((plc X.lt X.ty j)))), (5, .int (nI (j))), (0, .ref 0), (1, .ref 20), (2, .int (nI (X.ty))), (3, .int (nI (k)))]) (st' := [.int (nI (b01 (fitB U tt1 od1 z)))]) (w' := modW 0 U ((X.rf, X.wo, X.ta, X.ow, sl2, X.sh, X.lt, X.ty, pl1, nu1, od1, tt1, X.oo, X.on, X.wn, X.pd, X.li, X.rr, X.rn, X.dr) : ModN) (some kf) ++ row48 20 ((rowS S))) rfl rfl rfl ?_
          refine ev_ifne_b (tgt := 126) dX7_auction_111 (by decide) (fun h111 => ?_) (fun h111 => ?_)
          · skip
            have hok : stOk U ((prsS C).wd j) ((prsS C).f1 j) ((prsS C).f2 j) ((prsS C).f3 j) := (fit_iff hm).mp (by rw [← hzw]; exact h111)
            have hdo : doM U tt1 z = stDo U ((prsS C).wd j) ((prsS C).f1 j) ((prsS C).f2 j) ((prsS C).f3 j) := by rw [hzw] at h111; rw [hzw]; exact do_same hm h111
            refine ev_b bX7_auction_126_129 (lv' := [(7, .int (zI (z))), (6, .int (nI ((plc X.lt X.ty j)))), (5, .int (nI (j))), (0, .ref 0), (1, .ref 20), (2, .int (nI (X.ty))), (3, .int (nI (k)))]) (st' := [.int (zI (z)), .ref 0]) (w2 := modW 0 U ((X.rf, X.wo, X.ta, X.ow, sl2, X.sh, X.lt, X.ty, pl1, nu1, od1, tt1, X.oo, X.on, X.wn, X.pd, X.li, X.rr, X.rn, X.dr) : ModN) (some kf) ++ row48 20 ((rowS S))) rfl ?_
            refine ev_callP (Yc := mX7_comes) (st := []) (A := modW 0 U ((X.rf, X.wo, X.ta, X.ow, sl2, X.sh, X.lt, X.ty, pl1, nu1, od1, tt1, X.oo, X.on, X.wn, X.pd, X.li, X.rr, X.rn, X.dr) : ModN) (some kf)) (R := row48 20 ((rowS S))) dX7_auction_129 tw_1072 kX7_comes (m_X7_comes_any U ((X.rf, X.wo, X.ta, X.ow, sl2, X.sh, X.lt, X.ty, pl1, nu1, od1, tt1, X.oo, X.on, X.wn, X.pd, X.li, X.rr, X.rn, X.dr) : ModN) (some kf) z h111 (fun e => st3_lt hm0 h111.1 e) hUca) rfl rfl rfl mod_xek rfl rfl (by decide) (Nat.le_of_ble_eq_true rfl) (Nat.le_of_ble_eq_true rfl) (Nat.le_of_ble_eq_true rfl) (fun r w' h => by obtain ⟨rfl, rfl⟩ := h; exact ⟨mod_eq, mod_xek, rfl⟩) ?_
            rintro _ _ ⟨rfl, rfl⟩
            refine ev_eq (lv' := [(7, .int (zI (z))), (6, .int (nI ((plc X.lt X.ty j)))), (5, .int (nI (j))), (0, .ref 0), (1, .ref 20), (2, .int (nI (X.ty))), (3, .int (nI (k)))]) (st' := []) (w' := modW 0 ((doM U tt1 z)) ((X.rf, X.wo, X.ta, X.ow, 1, X.sh, X.lt, X.ty, pl1, nu1, od1, tt1, X.oo, X.on, X.wn, X.pd, X.li, X.rr, X.rn, X.dr) : ModN) (some kf) ++ row48 20 ((rowS S))) rfl rfl rfl ?_
            refine ev_eq (w' := modW 0 ((stDo U ((prsS C).wd j) ((prsS C).f1 j) ((prsS C).f2 j) ((prsS C).f3 j))) ((X.rf, X.wo, X.ta, X.ow, 1, X.sh, X.lt, X.ty, (plc X.lt X.ty (j + 1)), nu1, od1, tt1, X.oo, X.on, X.wn, X.pd, X.li, X.rr, X.rn, X.dr) : ModN) (some kf) ++ row48 20 ((rowS S))) rfl rfl (by rw [hdo, hpl] <;> rfl) ?_
            refine ev_iinc_n (x := j) (v := 1) dX7_auction_132 rfl (by decide) ?_
            refine ev_eq (lv' := [(5, .int (nI (j + 1))), (7, .int (zI (z))), (6, .int (nI ((plc X.lt X.ty j)))), (0, .ref 0), (1, .ref 20), (2, .int (nI (X.ty))), (3, .int (nI (k)))]) rfl rfl rfl ?_
            refine ev_b bX7_auction_135_87 (lv' := [(5, .int (nI (j + 1))), (7, .int (zI (z))), (6, .int (nI ((plc X.lt X.ty j)))), (0, .ref 0), (1, .ref 20), (2, .int (nI (X.ty))), (3, .int (nI (k)))]) (st' := []) (w2 := modW 0 ((stDo U ((prsS C).wd j) ((prsS C).f1 j) ((prsS C).f2 j) ((prsS C).f3 j))) ((X.rf, X.wo, X.ta, X.ow, 1, X.sh, X.lt, X.ty, (plc X.lt X.ty (j + 1)), nu1, od1, tt1, X.oo, X.on, X.wn, X.pd, X.li, X.rr, X.rn, X.dr) : ModN) (some kf) ++ row48 20 ((rowS S))) rfl ?_
            refine ev_pick (lv' := [(5, .int (nI (j + 1))), (0, .ref 0), (1, .ref 20), (2, .int (nI (X.ty))), (3, .int (nI (k)))]) rfl ?_
            rw [show nI (j + 1) = nI ((j + 1)) from congrArg nI (by omega)]
            exact ih87 (j + 1) (by omega) _ nu1 od1 1 tt1 ⟨do_ok hinv87.1 (st_one hSt hlt87) hok, og_step hlt87 hinv87.2.1 hok, fun _ => rfl⟩
          · skip
            have hno : ¬ stOk U ((prsS C).wd j) ((prsS C).f1 j) ((prsS C).f2 j) ((prsS C).f3 j) := fun q => h111 (by rw [hzw]; exact (fit_iff hm).mpr q)
            have hob := og_fault hlt87 hinv87.2.1 hno
            refine ev_b bX7_auction_114_121 (lv' := [(7, .int (zI (z))), (6, .int (nI ((plc X.lt X.ty j)))), (5, .int (nI (j))), (0, .ref 0), (1, .ref 20), (2, .int (nI (X.ty))), (3, .int (nI (k)))]) (st' := [.int ((-2000) - (nI ((plc X.lt X.ty j)))), .ref 0]) (w2 := modW 0 U ((X.rf, X.wo, X.ta, X.ow, sl2, X.sh, X.lt, X.ty, pl1, nu1, od1, tt1, X.oo, X.on, X.wn, X.pd, X.li, X.rr, X.rn, X.dr) : ModN) (some kf) ++ row48 20 ((rowS S))) rfl ?_
            refine ev_top (y := zI (obZ (prsS C) S)) (by rw [hob.1, (hG j hlt87).1, ← sub_z]; rfl) ?_
            refine ev_b bX7_auction_121_122 (lv' := [(7, .int (zI (z))), (6, .int (nI ((plc X.lt X.ty j)))), (5, .int (nI (j))), (0, .ref 0), (1, .ref 20), (2, .int (nI (X.ty))), (3, .int (nI (k)))]) (st' := [.ref 20, .int (zI (obZ (prsS C) S)), .ref 0]) (w2 := modW 0 U ((X.rf, X.wo, X.ta, X.ow, sl2, X.sh, X.lt, X.ty, pl1, nu1, od1, tt1, X.oo, X.on, X.wn, X.pd, X.li, X.rr, X.rn, X.dr) : ModN) (some kf) ++ row48 20 ((rowS S))) rfl ?_
            refine ev_callM (Yc := mX7_faults) (st := []) dX7_auction_122 tw_1060 kX7_faults (m_X7_faults_s U ((X.rf, X.wo, X.ta, X.ow, sl2, X.sh, X.lt, X.ty, pl1, nu1, od1, tt1, X.oo, X.on, X.wn, X.pd, X.li, X.rr, X.rn, X.dr) : ModN) kf S (obZ (prsS C) S)) rfl rfl rfl rfl (by decide) (Nat.le_of_ble_eq_true rfl) (Nat.le_of_ble_eq_true rfl) (Nat.le_of_ble_eq_true rfl) (fun r w' h => by obtain ⟨-, rfl⟩ := h; rfl) ?_
            rintro _ _ ⟨rfl, rfl⟩
            refine ev_eq (lv' := [(7, .int (zI (z))), (6, .int (nI ((plc X.lt X.ty j)))), (5, .int (nI (j))), (0, .ref 0), (1, .ref 20), (2, .int (nI (X.ty))), (3, .int (nI (k)))]) (st' := [.int (zI (obZ (prsS C) S))]) (w' := modW 0 S ((X.rf, X.wo, X.ta, X.ow, 1, X.sh, X.lt, 0, pl1, nu1, od1, tt1, X.oo, X.on, X.wn, X.pd, X.li, X.rr, X.rn, X.dr) : ModN) (some kf) ++ row48 20 ((rowS S))) rfl rfl rfl ?_
            refine ev_drop ?_
            exact ev_iret dX7_auction_125 rfl mod_le (Nat.le_of_ble_eq_true rfl) (Nat.le_of_ble_eq_true rfl) (by rw [hob.2]; exact ⟨rfl, _, rfl, mok_stale hM.1 rfl, rfl, rfl, rfl, rfl, rfl⟩)
      refine ev_pick (lv' := [(5, .int (nI (0))), (0, .ref 0), (1, .ref 20), (2, .int (nI (X.ty))), (3, .int (nI (k)))]) rfl ?_
      exact L87 ((prsS C).sn) 0 (by omega) S nu od X.sl tt ⟨hS, rfl, fun z => absurd z (by omega)⟩
    | succ j_ ih20 =>
      intro k hk20 nu od tt 
      have hlt20 : k < (prsS C).sn := by omega
      refine ev_b bX7_auction_20_22 (lv' := [(3, .int (nI (k))), (4, .int (nI (b01 (k < (prsS C).sn)))), (0, .ref 0), (1, .ref 20), (2, .int (nI (X.ty)))]) (st' := [.int (nI (b01 (k < (prsS C).sn)))]) (w2 := modW 0 S ((X.rf, X.wo, X.ta, X.ow, X.sl, X.sh, X.lt, X.ty, (plc X.lt X.ty k), nu, od, tt, X.oo, X.on, X.wn, X.pd, X.li, X.rr, X.rn, X.dr) : ModN) (some kf) ++ row48 20 ((rowS S))) rfl ?_
      refine ev_ifeq_b (tgt := 79) dX7_auction_22 (by decide) (fun h22 => (by exfalso; omega)) (fun h22 => ?_)
      refine ev_b bX7_auction_25_26 (lv' := [(3, .int (nI (k))), (4, .int (nI (b01 (k < (prsS C).sn)))), (0, .ref 0), (1, .ref 20), (2, .int (nI (X.ty)))]) (st' := [.ref 0]) (w2 := modW 0 S ((X.rf, X.wo, X.ta, X.ow, X.sl, X.sh, X.lt, X.ty, (plc X.lt X.ty k), nu, od, tt, X.oo, X.on, X.wn, X.pd, X.li, X.rr, X.rn, X.dr) : ModN) (some kf) ++ row48 20 ((rowS S))) rfl ?_
      refine ev_callP (Yc := mX7_statement) (st := []) (A := modW 0 S ((X.rf, X.wo, X.ta, X.ow, X.sl, X.sh, X.lt, X.ty, (plc X.lt X.ty k), nu, od, tt, X.oo, X.on, X.wn, X.pd, X.li, X.rr, X.rn, X.dr) : ModN) (some kf)) (R := row48 20 ((rowS S))) dX7_auction_26 tw_1024 kX7_statement (m_X7_statement_any S ((X.rf, X.wo, X.ta, X.ow, X.sl, X.sh, X.lt, X.ty, (plc X.lt X.ty k), nu, od, tt, X.oo, X.on, X.wn, X.pd, X.li, X.rr, X.rn, X.dr) : ModN) (some kf) hT hL (plc_le k)) rfl rfl rfl mod_xek rfl rfl (by decide) (Nat.le_of_ble_eq_true rfl) (Nat.le_of_ble_eq_true rfl) (Nat.le_of_ble_eq_true rfl) (fun r w' h => by obtain ⟨z, pl, nu, od, tt, rfl, rfl, -⟩ := h; exact ⟨mod_eq, mod_xek, rfl⟩) ?_
      rintro _ _ ⟨z, pl1, nu1, od1, tt1, rfl, rfl, ho1, hP⟩
      refine ev_eq (lv' := [(3, .int (nI (k))), (4, .int (nI (b01 (k < (prsS C).sn)))), (0, .ref 0), (1, .ref 20), (2, .int (nI (X.ty)))]) (st' := [.int (zI (z))]) (w' := modW 0 S ((X.rf, X.wo, X.ta, X.ow, X.sl, X.sh, X.lt, X.ty, pl1, nu1, od1, tt1, X.oo, X.on, X.wn, X.pd, X.li, X.rr, X.rn, X.dr) : ModN) (some kf) ++ row48 20 ((rowS S))) rfl rfl rfl ?_
      obtain ⟨hz, hpl, hm, hb, hz1, hz2⟩ := stp_good hP (hG k hlt20).2.2.2.2.2
      have hpn : pl1 < X.ty ↔ k + 1 < (prsS C).sn := by
        have e1 : pl1 = plc X.lt X.ty (k + 1) := hpl
        rw [e1]
        constructor
        · intro q
          by_cases e2 : k + 1 = (prsS C).sn
          · rw [e2] at q; omega
          · omega
        · exact hJ.1 (k + 1) (by omega)
      have hp96 : pl1 ≤ X.ty := by
        rw [hpl]
        exact (stE_ok (plc_le k)).1
      refine ev_if_lt_z (tgt := 36) (by constructor <;> omega) dX7_auction_29 (by decide) (fun h29 => (by exfalso; omega)) (fun h29 => ?_)
      refine ev_b bX7_auction_32_41 (lv' := [(4, .int (nI (1))), (3, .int (nI (k))), (0, .ref 0), (1, .ref 20), (2, .int (nI (X.ty)))]) (st' := [.int (nI (1))]) (w2 := modW 0 S ((X.rf, X.wo, X.ta, X.ow, X.sl, X.sh, X.lt, X.ty, pl1, nu1, od1, tt1, X.oo, X.on, X.wn, X.pd, X.li, X.rr, X.rn, X.dr) : ModN) (some kf) ++ row48 20 ((rowS S))) rfl ?_
      refine ev_if_ne_n (tgt := 58) (by decide) dX7_auction_41 (by decide) (fun h41 => ?_) (fun h41 => (by exfalso; omega))
      refine ev_iinc_n (x := k) (v := 1) dX7_auction_58 rfl (by decide) ?_
      refine ev_eq (lv' := [(3, .int (nI (k + 1))), (4, .int (nI (1))), (0, .ref 0), (1, .ref 20), (2, .int (nI (X.ty)))]) rfl rfl rfl ?_
      refine ev_b bX7_auction_61_66 (lv' := [(3, .int (nI (k + 1))), (4, .int (nI (1))), (0, .ref 0), (1, .ref 20), (2, .int (nI (X.ty)))]) (st' := [.int (nI (X.ty)), .int (nI (pl1))]) (w2 := modW 0 S ((X.rf, X.wo, X.ta, X.ow, X.sl, X.sh, X.lt, X.ty, pl1, nu1, od1, tt1, X.oo, X.on, X.wn, X.pd, X.li, X.rr, X.rn, X.dr) : ModN) (some kf) ++ row48 20 ((rowS S))) rfl ?_
      refine ev_icmp_ge_n (tgt := 73) (by omega) (by omega) dX7_auction_66 (by decide) (fun h66 => ?_) (fun h66 => ?_)
      · skip
        refine ev_b bX7_auction_73_74 (lv' := [(3, .int (nI (k + 1))), (4, .int (nI (1))), (0, .ref 0), (1, .ref 20), (2, .int (nI (X.ty)))]) (st' := [.int (nI (0))]) (w2 := modW 0 S ((X.rf, X.wo, X.ta, X.ow, X.sl, X.sh, X.lt, X.ty, pl1, nu1, od1, tt1, X.oo, X.on, X.wn, X.pd, X.li, X.rr, X.rn, X.dr) : ModN) (some kf) ++ row48 20 ((rowS S))) rfl ?_
        refine ev_eq (w' := modW 0 S ((X.rf, X.wo, X.ta, X.ow, X.sl, X.sh, X.lt, X.ty, (plc X.lt X.ty (k + 1)), nu1, od1, tt1, X.oo, X.on, X.wn, X.pd, X.li, X.rr, X.rn, X.dr) : ModN) (some kf) ++ row48 20 ((rowS S))) rfl rfl (by rw [hpl] <;> rfl) ?_
        refine ev_b bX7_auction_74_20 (lv' := [(4, .int (nI (0))), (3, .int (nI (k + 1))), (0, .ref 0), (1, .ref 20), (2, .int (nI (X.ty)))]) (st' := []) (w2 := modW 0 S ((X.rf, X.wo, X.ta, X.ow, X.sl, X.sh, X.lt, X.ty, (plc X.lt X.ty (k + 1)), nu1, od1, tt1, X.oo, X.on, X.wn, X.pd, X.li, X.rr, X.rn, X.dr) : ModN) (some kf) ++ row48 20 ((rowS S))) rfl ?_
        refine ev_pick (lv' := [(3, .int (nI (k + 1))), (4, .int (nI (0))), (0, .ref 0), (1, .ref 20), (2, .int (nI (X.ty)))]) rfl ?_
        rw [show nI (k + 1) = nI ((k + 1)) from congrArg nI (by omega)]
        rw [show nI (0) = nI (b01 ((k + 1) < (prsS C).sn)) from congrArg nI (by first | exact (b01_t (by omega)).symm | exact (b01_f (by omega)).symm)]
        exact ih20 (k + 1) (by omega) nu1 od1 tt1
      · skip
        refine ev_b bX7_auction_69_74 (lv' := [(3, .int (nI (k + 1))), (4, .int (nI (1))), (0, .ref 0), (1, .ref 20), (2, .int (nI (X.ty)))]) (st' := [.int (nI (1))]) (w2 := modW 0 S ((X.rf, X.wo, X.ta, X.ow, X.sl, X.sh, X.lt, X.ty, pl1, nu1, od1, tt1, X.oo, X.on, X.wn, X.pd, X.li, X.rr, X.rn, X.dr) : ModN) (some kf) ++ row48 20 ((rowS S))) rfl ?_
        refine ev_eq (w' := modW 0 S ((X.rf, X.wo, X.ta, X.ow, X.sl, X.sh, X.lt, X.ty, (plc X.lt X.ty (k + 1)), nu1, od1, tt1, X.oo, X.on, X.wn, X.pd, X.li, X.rr, X.rn, X.dr) : ModN) (some kf) ++ row48 20 ((rowS S))) rfl rfl (by rw [hpl] <;> rfl) ?_
        refine ev_b bX7_auction_74_20 (lv' := [(4, .int (nI (1))), (3, .int (nI (k + 1))), (0, .ref 0), (1, .ref 20), (2, .int (nI (X.ty)))]) (st' := []) (w2 := modW 0 S ((X.rf, X.wo, X.ta, X.ow, X.sl, X.sh, X.lt, X.ty, (plc X.lt X.ty (k + 1)), nu1, od1, tt1, X.oo, X.on, X.wn, X.pd, X.li, X.rr, X.rn, X.dr) : ModN) (some kf) ++ row48 20 ((rowS S))) rfl ?_
        refine ev_pick (lv' := [(3, .int (nI (k + 1))), (4, .int (nI (1))), (0, .ref 0), (1, .ref 20), (2, .int (nI (X.ty)))]) rfl ?_
        rw [show nI (k + 1) = nI ((k + 1)) from congrArg nI (by omega)]
        rw [show nI (1) = nI (b01 ((k + 1) < (prsS C).sn)) from congrArg nI (by first | exact (b01_t (by omega)).symm | exact (b01_f (by omega)).symm)]
        exact ih20 (k + 1) (by omega) nu1 od1 tt1
  refine ev_pick (lv' := [(3, .int (nI (0))), (4, .int (nI (1))), (0, .ref 0), (1, .ref 20), (2, .int (nI (X.ty)))]) rfl ?_
  rw [show nI (1) = nI (b01 (0 < (prsS C).sn)) from congrArg nI (by exact (b01_t hsn0).symm)]
  exact L20 ((prsS C).sn) 0 (by omega) X.nu X.od X.tt
