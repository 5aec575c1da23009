set_option maxHeartbeats 4000000 in
set_option maxRecDepth 100000 in
theorem q_printed_len_s {l : Launch} {E : XE} (S : SaleN) (X : ModN) (kf : Nat → Nat)  (hS : SaleOK S) (hM : MOK S X)  : MetE l E mX7_printed (6) 4 124 [.ref 0, .int (zI (-1))] (modW 0 S X (some kf)) (MP S (some kf) (X.lt) (X.ty) (X.rr) (X.rn) (X.rf) (some (.int (nI ((txtL S).length))))) := by
  refine MetE.of (by decide +kernel) (Nat.le_of_ble_eq_true rfl) ?_
  have hca := hS.1
  have hpw := pow_ca hS
  have hac := ac_lt hS
  have hshl := shl_le hS
  
  refine ev_eq (lv' := [(0, .ref 0), (1, .int (zI (-1)))]) (st' := []) (w' := modW 0 S X (some kf)) rfl rfl rfl ?_
  refine ev_b bX7_printed_0_2 (lv' := [(0, .ref 0), (1, .int (zI (-1)))]) (st' := [.int (-1), .int (zI (-1))]) (w2 := modW 0 S X (some kf)) rfl ?_
  refine ev_top (y := zI (-1)) (by decide) ?_
  refine ev_icmp_ge_z (tgt := 12) (by constructor <;> omega) (by constructor <;> omega) dX7_printed_2 (by decide) (fun h2 => ?_) (fun h2 => (by exfalso; omega))
  refine ev_b bX7_printed_12_13 (lv' := [(0, .ref 0), (1, .int (zI (-1)))]) (st' := [.ref 0]) (w2 := modW 0 S X (some kf)) rfl ?_
  refine ev_callM (Yc := mX7_winnersNow) (st := []) dX7_printed_13 tw_1104 kX7_winnersNow (m_X7_winnersNow_g S S.kd S.fg X (some kf) hS (kf_self hM.1) hM.2) rfl rfl rfl rfl (by decide) (Nat.le_of_ble_eq_true rfl) (Nat.le_of_ble_eq_true rfl) (Nat.le_of_ble_eq_true rfl) (fun r w' h => by obtain ⟨-, wo, ta, ow, rfl, -⟩ := h; exact mod_eq) ?_
  rintro _ _ ⟨rfl, wo, ta, ow, rfl, hT⟩
  refine ev_eq (lv' := [(0, .ref 0), (1, .int (zI (-1)))]) (st' := [.int (nI (winB S 1023))]) (w' := modW 0 S ((X.rf, wo, ta, ow, 0, X.sh, X.lt, X.ty, X.pl, X.nu, X.od, X.tt, X.oo, X.on, X.wn, X.pd, X.li, X.rr, X.rn, X.dr) : ModN) (some kf)) rfl rfl rfl ?_
  have hwb := winB_lt hS 1023
  refine ev_b bX7_printed_16_17 (lv' := [(2, .int (nI (winB S 1023))), (0, .ref 0), (1, .int (zI (-1)))]) (st' := []) (w2 := modW 0 S ((X.rf, wo, ta, ow, 0, X.sh, X.lt, X.ty, X.pl, X.nu, X.od, X.tt, X.oo, X.on, X.wn, X.pd, X.li, X.rr, X.rn, X.dr) : ModN) (some kf)) rfl ?_
  refine ev_new (ci := 0) (fs := [.null, .int (nI 0), .int (nI 0), .int (nI 0)]) dX7_printed_17 tw_1301 tw_1302 tw_17 inJ4 tyJ4_ok rfl (fun j hj => by rcases (show j = 0 ∨ j = 1 ∨ j = 2 ∨ j = 3 from by omega) with rfl | rfl | rfl | rfl <;> rfl) (fun _ => rfl) rfl rfl rfl (Nat.le_of_ble_eq_true rfl) (Nat.le_of_ble_eq_true rfl) (Nat.le_of_ble_eq_true rfl) ?_
  refine ev_eq (st' := [.ref 20]) (w' := modW 0 S ((X.rf, wo, ta, ow, 0, X.sh, X.lt, X.ty, X.pl, X.nu, X.od, X.tt, X.oo, X.on, X.wn, X.pd, X.li, X.rr, X.rn, X.dr) : ModN) (some kf) ++ ([.inr (0, [.null, .int (nI 0), .int (nI 0), .int (nI 0)])] : AW)) rfl rfl rfl ?_
  refine ev_b bX7_printed_20_21 (lv' := [(2, .int (nI (winB S 1023))), (0, .ref 0), (1, .int (zI (-1)))]) (st' := [.ref 20, .ref 20]) (w2 := modW 0 S ((X.rf, wo, ta, ow, 0, X.sh, X.lt, X.ty, X.pl, X.nu, X.od, X.tt, X.oo, X.on, X.wn, X.pd, X.li, X.rr, X.rn, X.dr) : ModN) (some kf) ++ ([.inr (0, [.null, .int (nI 0), .int (nI 0), .int (nI 0)])] : AW)) rfl ?_
  refine ev_callGI (Yc := mJ4_init_da8c8) [20] dX7_printed_21 tw_1303 kJ4_init_da8c8 (m_J4_init_da8c8 ) rfl (st := [.ref 20]) rfl (by decide) rfl rfl rfl rfl (Nat.le_of_ble_eq_true rfl) (by decide) (Nat.le_of_ble_eq_true rfl) (by omega) (by omega) (by omega) (fun r w' h => by obtain ⟨-, rfl⟩ := h; exact Nat.le_of_ble_eq_true rfl) ?_
  rintro _ _ ⟨rfl, rfl⟩
  refine ev_eq (lv' := [(2, .int (nI (winB S 1023))), (0, .ref 0), (1, .int (zI (-1)))]) (st' := [.ref 20]) (w' := modW 0 S ((X.rf, wo, ta, ow, 0, X.sh, X.lt, X.ty, X.pl, X.nu, X.od, X.tt, X.oo, X.on, X.wn, X.pd, X.li, X.rr, X.rn, X.dr) : ModN) (some kf) ++ sbW 20 (((fun _ => 0), 16, 0) : SbN)) rfl rfl rfl ?_
  refine ev_b bX7_printed_24_28 (lv' := [(4, .int (nI (0))), (3, .ref 20), (2, .int (nI (winB S 1023))), (0, .ref 0), (1, .int (zI (-1)))]) (st' := []) (w2 := modW 0 S ((X.rf, wo, ta, ow, 0, X.sh, X.lt, X.ty, X.pl, X.nu, X.od, X.tt, X.oo, X.on, X.wn, X.pd, X.li, X.rr, X.rn, X.dr) : ModN) (some kf) ++ sbW 20 (((fun _ => 0), 16, 0) : SbN)) rfl ?_
  have L28 : ∀ (j_ k : Nat), k + j_ = S.ca → ∀ (s : SbN), (SbL (winL S (winB S 1023) k) s ∧ SbM s) → Ev l E mX7_printed (6) 4 124 (modW 0 S X (some kf)) (MP S (some kf) (X.lt) (X.ty) (X.rr) (X.rn) (X.rf) (some (.int (nI ((txtL S).length))))) (ncF s.m) (nsF s.m) 28 [(4, .int (nI (k))), (0, .ref 0), (1, .int (zI (-1))), (2, .int (nI (winB S 1023))), (3, .ref 20)] [] (modW 0 S ((X.rf, wo, ta, ow, 0, X.sh, X.lt, X.ty, X.pl, X.nu, X.od, X.tt, X.oo, X.on, X.wn, X.pd, X.li, X.rr, X.rn, X.dr) : ModN) (some kf) ++ sbW 20 s) := by
    intro j_
    induction j_ with
    | zero =>
      intro k hk28 s hinv28
      replace hk28 : k = S.ca := hk28
      subst hk28
      have hl := win_le42 hS (Nat.le_refl S.ca) (out_dsj (win_spec hS 1023).1)
      obtain ⟨hL, hB⟩ := hinv28
      have hsn := hL.1
      refine ev_b bX7_printed_28_34 (lv' := [(4, .int (nI (S.ca))), (0, .ref 0), (1, .int (zI (-1))), (2, .int (nI (winB S 1023))), (3, .ref 20)]) (st' := [.int (nI (S.ca)), .int (nI (S.ca))]) (w2 := modW 0 S ((X.rf, wo, ta, ow, 0, X.sh, X.lt, X.ty, X.pl, X.nu, X.od, X.tt, X.oo, X.on, X.wn, X.pd, X.li, X.rr, X.rn, X.dr) : ModN) (some kf) ++ sbW 20 s) rfl ?_
      refine ev_icmp_ge_n (tgt := 145) (by omega) (by omega) dX7_printed_34 (by decide) (fun h34 => ?_) (fun h34 => (by exfalso; omega))
      refine ev_b bX7_printed_145_148 (lv' := [(4, .int (nI (S.ca))), (0, .ref 0), (1, .int (zI (-1))), (2, .int (nI (winB S 1023))), (3, .ref 20)]) (st' := [.int (nI (47)), .ref 20]) (w2 := modW 0 S ((X.rf, wo, ta, ow, 0, X.sh, X.lt, X.ty, X.pl, X.nu, X.od, X.tt, X.oo, X.on, X.wn, X.pd, X.li, X.rr, X.rn, X.dr) : ModN) (some kf) ++ sbW 20 s) rfl ?_
      refine ev_appC_s (st := []) dX7_printed_148 tw_1337 rfl rfl (Nat.le_of_ble_eq_true rfl) (by decide) (Nat.le_of_ble_eq_true rfl) hL hB (by have := hl; omega) (by omega) ?_
      intro s27 hL27 hB27
      have hl27 : ((winL S (winB S 1023) S.ca) ++ [47]).length ≤ 43 := by rw [List.length_append]; show _ + 1 ≤ _; omega
      refine ev_eq (lv' := [(4, .int (nI (S.ca))), (0, .ref 0), (1, .int (zI (-1))), (2, .int (nI (winB S 1023))), (3, .ref 20)]) (st' := [.ref 20]) (w' := modW 0 S ((X.rf, wo, ta, ow, 0, X.sh, X.lt, X.ty, X.pl, X.nu, X.od, X.tt, X.oo, X.on, X.wn, X.pd, X.li, X.rr, X.rn, X.dr) : ModN) (some kf) ++ sbW 20 s27) rfl rfl rfl ?_
      refine ev_b bX7_printed_151_156 (lv' := [(4, .int (nI (S.ca))), (0, .ref 0), (1, .int (zI (-1))), (2, .int (nI (winB S 1023))), (3, .ref 20)]) (st' := [.int (nI (winB S 1023)), .ref 8, .ref 20]) (w2 := modW 0 S ((X.rf, wo, ta, ow, 0, X.sh, X.lt, X.ty, X.pl, X.nu, X.od, X.tt, X.oo, X.on, X.wn, X.pd, X.li, X.rr, X.rn, X.dr) : ModN) (some kf) ++ sbW 20 s27) rfl ?_
      refine ev_iald_z (f := wo) dX7_printed_156 rfl (by omega) (by decide) ?_
      refine ev_top (y := (nI (winW S 1023))) (by rw [show wo (winB S 1023) = ((winW S 1023 : Nat) : Int) from by rw [(hT _ (out_shl (win_spec hS (1023)).1)).1, out_wt (win_spec hS (1023)).1, (win_spec hS (1023)).2.2]]; exact zI_nat _) ?_
      refine ev_appI_s (st := []) dX7_printed_157 tw_1406 rfl rfl (Nat.le_of_ble_eq_true rfl) (by decide) (Nat.le_of_ble_eq_true rfl) hL27 hB27 (by have := hl27; omega) (by have := winW_le hS 1023; omega) ?_
      intro s28 hL28 hB28
      have hl28 : (((winL S (winB S 1023) S.ca) ++ [47]) ++ numL (winW S 1023)).length ≤ 46 := by rw [List.length_append]; have := num_len (winW S 1023); omega
      refine ev_eq (lv' := [(4, .int (nI (S.ca))), (0, .ref 0), (1, .int (zI (-1))), (2, .int (nI (winB S 1023))), (3, .ref 20)]) (st' := [.ref 20]) (w' := modW 0 S ((X.rf, wo, ta, ow, 0, X.sh, X.lt, X.ty, X.pl, X.nu, X.od, X.tt, X.oo, X.on, X.wn, X.pd, X.li, X.rr, X.rn, X.dr) : ModN) (some kf) ++ sbW 20 s28) rfl rfl rfl ?_
      refine ev_b bX7_printed_160_161 (lv' := [(4, .int (nI (S.ca))), (0, .ref 0), (1, .int (zI (-1))), (2, .int (nI (winB S 1023))), (3, .ref 20)]) (st' := []) (w2 := modW 0 S ((X.rf, wo, ta, ow, 0, X.sh, X.lt, X.ty, X.pl, X.nu, X.od, X.tt, X.oo, X.on, X.wn, X.pd, X.li, X.rr, X.rn, X.dr) : ModN) (some kf) ++ sbW 20 s28) rfl ?_
      have hLt : SbL (txtL S) s28 := hL28
      refine ev_b bX7_printed_161_162 (lv' := [(4, .int (nI (S.ca))), (0, .ref 0), (1, .int (zI (-1))), (2, .int (nI (winB S 1023))), (3, .ref 20)]) (st' := [.int (zI (-1))]) (w2 := modW 0 S ((X.rf, wo, ta, ow, 0, X.sh, X.lt, X.ty, X.pl, X.nu, X.od, X.tt, X.oo, X.on, X.wn, X.pd, X.li, X.rr, X.rn, X.dr) : ModN) (some kf) ++ sbW 20 s28) rfl ?_
      refine ev_if_ge_z (tgt := 172) (by constructor <;> omega) dX7_printed_162 (by decide) (fun h162 => (by exfalso; omega)) (fun h162 => ?_)
      refine ev_b bX7_printed_165_166 (lv' := [(4, .int (nI (S.ca))), (0, .ref 0), (1, .int (zI (-1))), (2, .int (nI (winB S 1023))), (3, .ref 20)]) (st' := [.ref 20]) (w2 := modW 0 S ((X.rf, wo, ta, ow, 0, X.sh, X.lt, X.ty, X.pl, X.nu, X.od, X.tt, X.oo, X.on, X.wn, X.pd, X.li, X.rr, X.rn, X.dr) : ModN) (some kf) ++ sbW 20 s28) rfl ?_
      refine ev_callV (Yc := mJ4_length_8abf5) [20, 21] dX7_printed_166 tw_1330 kJ4_length_8abf5 (m_J4_length_8abf5 s28) rfl (st := []) rfl rfl rfl (by decide) rfl (by decide) (Nat.le_of_ble_eq_true rfl) (ncF_le _) (nsF_le _) (fun r w' h => by obtain ⟨-, rfl⟩ := h; exact Nat.le_of_ble_eq_true rfl) ?_
      rintro _ _ ⟨rfl, rfl⟩
      refine ev_eq (lv' := [(4, .int (nI (S.ca))), (0, .ref 0), (1, .int (zI (-1))), (2, .int (nI (winB S 1023))), (3, .ref 20)]) (st' := [.int (nI (s28.n))]) (w' := modW 0 S ((X.rf, wo, ta, ow, 0, X.sh, X.lt, X.ty, X.pl, X.nu, X.od, X.tt, X.oo, X.on, X.wn, X.pd, X.li, X.rr, X.rn, X.dr) : ModN) (some kf) ++ sbW 20 s28) rfl rfl rfl ?_
      refine ev_top (y := (nI ((txtL S).length))) (congrArg nI (show s28.n = (txtL S).length from by exact hLt.1)) ?_
      refine ev_b bX7_printed_169_190 (lv' := [(4, .int (nI (S.ca))), (0, .ref 0), (1, .int (zI (-1))), (2, .int (nI (winB S 1023))), (3, .ref 20)]) (st' := [.int (nI ((txtL S).length))]) (w2 := modW 0 S ((X.rf, wo, ta, ow, 0, X.sh, X.lt, X.ty, X.pl, X.nu, X.od, X.tt, X.oo, X.on, X.wn, X.pd, X.li, X.rr, X.rn, X.dr) : ModN) (some kf) ++ sbW 20 s28) rfl ?_
      refine ev_drop ?_
      exact ev_iret dX7_printed_190 rfl mod_le (ncF_le _) (nsF_le _) ⟨rfl, _, rfl, mok_fresh hM.1 rfl hT, rfl, rfl, rfl, rfl, rfl⟩
    | succ j_ ih28 =>
      intro k hk28 s hinv28
      have hlt28 : k < S.ca := by omega
      have hl := win_le42 hS (show k ≤ S.ca by omega) (out_dsj (win_spec hS 1023).1)
      have hwl := win_le42 hS (show k + 1 ≤ S.ca by omega) (out_dsj (win_spec hS 1023).1)
      obtain ⟨hq1, hq2, hq3, hq4⟩ := hS.2.2.1 k hlt28
      obtain ⟨hL, hB⟩ := hinv28
      have hsn := hL.1
      refine ev_b bX7_printed_28_34 (lv' := [(4, .int (nI (k))), (0, .ref 0), (1, .int (zI (-1))), (2, .int (nI (winB S 1023))), (3, .ref 20)]) (st' := [.int (nI (S.ca)), .int (nI (k))]) (w2 := modW 0 S ((X.rf, wo, ta, ow, 0, X.sh, X.lt, X.ty, X.pl, X.nu, X.od, X.tt, X.oo, X.on, X.wn, X.pd, X.li, X.rr, X.rn, X.dr) : ModN) (some kf) ++ sbW 20 s) rfl ?_
      refine ev_icmp_ge_n (tgt := 145) (by omega) (by omega) dX7_printed_34 (by decide) (fun h34 => (by exfalso; omega)) (fun h34 => ?_)
      refine ev_b bX7_printed_37_40 (lv' := [(4, .int (nI (k))), (0, .ref 0), (1, .int (zI (-1))), (2, .int (nI (winB S 1023))), (3, .ref 20)]) (st' := [.int (nI (k)), .int (nI (winB S 1023))]) (w2 := modW 0 S ((X.rf, wo, ta, ow, 0, X.sh, X.lt, X.ty, X.pl, X.nu, X.od, X.tt, X.oo, X.on, X.wn, X.pd, X.li, X.rr, X.rn, X.dr) : ModN) (some kf) ++ sbW 20 s) rfl ?_
      refine ev_callS (Yc := mX7_has) [] dX7_printed_40 tw_1057 kX7_has (m_X7_has (winB S 1023) k (by omega) (by omega)) rfl (st := []) rfl (by decide) rfl (by decide) (Nat.le_of_ble_eq_true rfl) (ncF_le _) (nsF_le _) (fun r w' h => by obtain ⟨-, rfl⟩ := h; exact Nat.le_of_ble_eq_true rfl) ?_
      rintro _ _ ⟨rfl, rfl⟩
      refine ev_eq (lv' := [(4, .int (nI (k))), (0, .ref 0), (1, .int (zI (-1))), (2, .int (nI (winB S 1023))), (3, .ref 20)]) (st' := [.int (nI (b01 ((winB S 1023).testBit k = true)))]) (w' := modW 0 S ((X.rf, wo, ta, ow, 0, X.sh, X.lt, X.ty, X.pl, X.nu, X.od, X.tt, X.oo, X.on, X.wn, X.pd, X.li, X.rr, X.rn, X.dr) : ModN) (some kf) ++ sbW 20 s) rfl rfl rfl ?_
      refine ev_ifne_b (tgt := 49) dX7_printed_43 (by decide) (fun h43 => ?_) (fun h43 => ?_)
      · skip
        refine ev_b bX7_printed_49_50 (lv' := [(4, .int (nI (k))), (0, .ref 0), (1, .int (zI (-1))), (2, .int (nI (winB S 1023))), (3, .ref 20)]) (st' := [.ref 20]) (w2 := modW 0 S ((X.rf, wo, ta, ow, 0, X.sh, X.lt, X.ty, X.pl, X.nu, X.od, X.tt, X.oo, X.on, X.wn, X.pd, X.li, X.rr, X.rn, X.dr) : ModN) (some kf) ++ sbW 20 s) rfl ?_
        refine ev_callV (Yc := mJ4_length_8abf5) [20, 21] dX7_printed_50 tw_1330 kJ4_length_8abf5 (m_J4_length_8abf5 s) rfl (st := []) rfl rfl rfl (by decide) rfl (by decide) (Nat.le_of_ble_eq_true rfl) (ncF_le _) (nsF_le _) (fun r w' h => by obtain ⟨-, rfl⟩ := h; exact Nat.le_of_ble_eq_true rfl) ?_
        rintro _ _ ⟨rfl, rfl⟩
        refine ev_eq (lv' := [(4, .int (nI (k))), (0, .ref 0), (1, .int (zI (-1))), (2, .int (nI (winB S 1023))), (3, .ref 20)]) (st' := [.int (nI (s.n))]) (w' := modW 0 S ((X.rf, wo, ta, ow, 0, X.sh, X.lt, X.ty, X.pl, X.nu, X.od, X.tt, X.oo, X.on, X.wn, X.pd, X.li, X.rr, X.rn, X.dr) : ModN) (some kf) ++ sbW 20 s) rfl rfl rfl ?_
        refine ev_if_le_n (tgt := 63) (by omega) dX7_printed_53 (by decide) (fun h53 => ?_) (fun h53 => ?_)
        · skip
          obtain ⟨Lp, hE, hLp, hlp, sp, esp⟩ : ∃ Lp : List Nat, winL S (winB S 1023) (k + 1) = Lp ++ bidL S k ∧ SbL Lp s ∧ Lp.length ≤ 42 ∧ ∃ sp, sp = s := by
            have e := List.length_eq_zero_iff.mp (show (winL S (winB S 1023) k).length = 0 by rw [← hL.1]; omega)
            refine ⟨[], ?_, by rw [e] at hL; exact hL, Nat.zero_le _, s, rfl⟩
            rw [winL_s, if_pos h43, if_pos (by rw [e]; rfl)]
            rfl
          subst esp
          have hBp := hB
          refine ev_b bX7_printed_63_70 (lv' := [(4, .int (nI (k))), (0, .ref 0), (1, .int (zI (-1))), (2, .int (nI (winB S 1023))), (3, .ref 20)]) (st' := [.int (nI (k)), .ref 4, .ref 20]) (w2 := modW 0 S ((X.rf, wo, ta, ow, 0, X.sh, X.lt, X.ty, X.pl, X.nu, X.od, X.tt, X.oo, X.on, X.wn, X.pd, X.li, X.rr, X.rn, X.dr) : ModN) (some kf) ++ sbW 20 sp) rfl ?_
          refine ev_iald_n (f := S.bd) dX7_printed_70 rfl (by omega) (by decide) ?_
          refine ev_appI_s (st := []) dX7_printed_71 tw_1406 rfl rfl (Nat.le_of_ble_eq_true rfl) (by decide) (Nat.le_of_ble_eq_true rfl) hLp hBp (by have := hlp; omega) (by omega) ?_
          intro s29 hL29 hB29
          have hl29 : (Lp ++ numL (S.bd k)).length ≤ 45 := by rw [List.length_append]; have := num_len (S.bd k); omega
          refine ev_eq (lv' := [(4, .int (nI (k))), (0, .ref 0), (1, .int (zI (-1))), (2, .int (nI (winB S 1023))), (3, .ref 20)]) (st' := [.ref 20]) (w' := modW 0 S ((X.rf, wo, ta, ow, 0, X.sh, X.lt, X.ty, X.pl, X.nu, X.od, X.tt, X.oo, X.on, X.wn, X.pd, X.li, X.rr, X.rn, X.dr) : ModN) (some kf) ++ sbW 20 s29) rfl rfl rfl ?_
          refine ev_b bX7_printed_74_76 (lv' := [(4, .int (nI (k))), (0, .ref 0), (1, .int (zI (-1))), (2, .int (nI (winB S 1023))), (3, .ref 20)]) (st' := [.int (nI (58)), .ref 20]) (w2 := modW 0 S ((X.rf, wo, ta, ow, 0, X.sh, X.lt, X.ty, X.pl, X.nu, X.od, X.tt, X.oo, X.on, X.wn, X.pd, X.li, X.rr, X.rn, X.dr) : ModN) (some kf) ++ sbW 20 s29) rfl ?_
          refine ev_appC_s (st := []) dX7_printed_76 tw_1337 rfl rfl (Nat.le_of_ble_eq_true rfl) (by decide) (Nat.le_of_ble_eq_true rfl) hL29 hB29 (by have := hl29; omega) (by omega) ?_
          intro s30 hL30 hB30
          have hl30 : ((Lp ++ numL (S.bd k)) ++ [58]).length ≤ 46 := by rw [List.length_append]; show _ + 1 ≤ _; omega
          refine ev_eq (lv' := [(4, .int (nI (k))), (0, .ref 0), (1, .int (zI (-1))), (2, .int (nI (winB S 1023))), (3, .ref 20)]) (st' := [.ref 20]) (w' := modW 0 S ((X.rf, wo, ta, ow, 0, X.sh, X.lt, X.ty, X.pl, X.nu, X.od, X.tt, X.oo, X.on, X.wn, X.pd, X.li, X.rr, X.rn, X.dr) : ModN) (some kf) ++ sbW 20 s30) rfl rfl rfl ?_
          refine ev_b bX7_printed_79_83 (lv' := [(5, .int (nI (0))), (4, .int (nI (k))), (0, .ref 0), (1, .int (zI (-1))), (2, .int (nI (winB S 1023))), (3, .ref 20)]) (st' := []) (w2 := modW 0 S ((X.rf, wo, ta, ow, 0, X.sh, X.lt, X.ty, X.pl, X.nu, X.od, X.tt, X.oo, X.on, X.wn, X.pd, X.li, X.rr, X.rn, X.dr) : ModN) (some kf) ++ sbW 20 s30) rfl ?_
          have L83 : ∀ (j_ e : Nat), e + j_ = 6 → ∀ (s5 : SbN), (SbL (((Lp ++ numL (S.bd k)) ++ [58]) ++ itmL (S.st k) e) s5 ∧ SbM s5) → Ev l E mX7_printed (6) 4 124 (modW 0 S X (some kf)) (MP S (some kf) (X.lt) (X.ty) (X.rr) (X.rn) (X.rf) (some (.int (nI ((txtL S).length))))) (ncF s5.m) (nsF s5.m) 83 [(5, .int (nI (e))), (0, .ref 0), (1, .int (zI (-1))), (2, .int (nI (winB S 1023))), (3, .ref 20), (4, .int (nI (k)))] [] (modW 0 S ((X.rf, wo, ta, ow, 0, X.sh, X.lt, X.ty, X.pl, X.nu, X.od, X.tt, X.oo, X.on, X.wn, X.pd, X.li, X.rr, X.rn, X.dr) : ModN) (some kf) ++ sbW 20 s5) := by
            intro j_
            induction j_ with
            | zero =>
              intro e hk83 s5 hinv83
              replace hk83 : e = 6 := hk83
              subst hk83
              obtain ⟨hLi, hBi⟩ := hinv83
              have hli : (((Lp ++ numL (S.bd k)) ++ [58]) ++ itmL (S.st k) 6).length ≤ 52 := by
                have h7 := num_len (S.bd k)
                have h8 := itm_le (S.st k) 6 (by omega)
                simp only [List.length_append, List.length_cons, List.length_nil]
                omega
              refine ev_b bX7_printed_83_87 (lv' := [(5, .int (nI (6))), (0, .ref 0), (1, .int (zI (-1))), (2, .int (nI (winB S 1023))), (3, .ref 20), (4, .int (nI (k)))]) (st' := [.int (nI (6)), .int (nI (6))]) (w2 := modW 0 S ((X.rf, wo, ta, ow, 0, X.sh, X.lt, X.ty, X.pl, X.nu, X.od, X.tt, X.oo, X.on, X.wn, X.pd, X.li, X.rr, X.rn, X.dr) : ModN) (some kf) ++ sbW 20 s5) rfl ?_
              refine ev_icmp_ge_n (tgt := 122) (by decide) (by decide) dX7_printed_87 (by decide) (fun h87 => ?_) (fun h87 => (by exfalso; omega))
              refine ev_b bX7_printed_122_125 (lv' := [(5, .int (nI (6))), (0, .ref 0), (1, .int (zI (-1))), (2, .int (nI (winB S 1023))), (3, .ref 20), (4, .int (nI (k)))]) (st' := [.int (nI (61)), .ref 20]) (w2 := modW 0 S ((X.rf, wo, ta, ow, 0, X.sh, X.lt, X.ty, X.pl, X.nu, X.od, X.tt, X.oo, X.on, X.wn, X.pd, X.li, X.rr, X.rn, X.dr) : ModN) (some kf) ++ sbW 20 s5) rfl ?_
              refine ev_appC_s (st := []) dX7_printed_125 tw_1337 rfl rfl (Nat.le_of_ble_eq_true rfl) (by decide) (Nat.le_of_ble_eq_true rfl) hLi hBi (by have := hli; omega) (by omega) ?_
              intro s31 hL31 hB31
              have hl31 : ((((Lp ++ numL (S.bd k)) ++ [58]) ++ itmL (S.st k) 6) ++ [61]).length ≤ 53 := by rw [List.length_append]; show _ + 1 ≤ _; omega
              refine ev_eq (lv' := [(5, .int (nI (6))), (0, .ref 0), (1, .int (zI (-1))), (2, .int (nI (winB S 1023))), (3, .ref 20), (4, .int (nI (k)))]) (st' := [.ref 20]) (w' := modW 0 S ((X.rf, wo, ta, ow, 0, X.sh, X.lt, X.ty, X.pl, X.nu, X.od, X.tt, X.oo, X.on, X.wn, X.pd, X.li, X.rr, X.rn, X.dr) : ModN) (some kf) ++ sbW 20 s31) rfl rfl rfl ?_
              refine ev_b bX7_printed_128_134 (lv' := [(5, .int (nI (6))), (0, .ref 0), (1, .int (zI (-1))), (2, .int (nI (winB S 1023))), (3, .ref 20), (4, .int (nI (k)))]) (st' := [.int (nI (k)), .ref 6, .ref 20]) (w2 := modW 0 S ((X.rf, wo, ta, ow, 0, X.sh, X.lt, X.ty, X.pl, X.nu, X.od, X.tt, X.oo, X.on, X.wn, X.pd, X.li, X.rr, X.rn, X.dr) : ModN) (some kf) ++ sbW 20 s31) rfl ?_
              refine ev_iald_n (f := S.pr) dX7_printed_134 rfl (by omega) (by decide) ?_
              refine ev_appI_s (st := []) dX7_printed_135 tw_1406 rfl rfl (Nat.le_of_ble_eq_true rfl) (by decide) (Nat.le_of_ble_eq_true rfl) hL31 hB31 (by have := hl31; omega) (by omega) ?_
              intro s32 hL32 hB32
              have hl32 : (((((Lp ++ numL (S.bd k)) ++ [58]) ++ itmL (S.st k) 6) ++ [61]) ++ numL (S.pr k)).length ≤ 56 := by rw [List.length_append]; have := num_len (S.pr k); omega
              refine ev_eq (lv' := [(5, .int (nI (6))), (0, .ref 0), (1, .int (zI (-1))), (2, .int (nI (winB S 1023))), (3, .ref 20), (4, .int (nI (k)))]) (st' := [.ref 20]) (w' := modW 0 S ((X.rf, wo, ta, ow, 0, X.sh, X.lt, X.ty, X.pl, X.nu, X.od, X.tt, X.oo, X.on, X.wn, X.pd, X.li, X.rr, X.rn, X.dr) : ModN) (some kf) ++ sbW 20 s32) rfl rfl rfl ?_
              refine ev_b bX7_printed_138_139 (lv' := [(5, .int (nI (6))), (0, .ref 0), (1, .int (zI (-1))), (2, .int (nI (winB S 1023))), (3, .ref 20), (4, .int (nI (k)))]) (st' := []) (w2 := modW 0 S ((X.rf, wo, ta, ow, 0, X.sh, X.lt, X.ty, X.pl, X.nu, X.od, X.tt, X.oo, X.on, X.wn, X.pd, X.li, X.rr, X.rn, X.dr) : ModN) (some kf) ++ sbW 20 s32) rfl ?_
              refine ev_iinc_n (x := k) (v := 1) dX7_printed_139 rfl (by decide) ?_
              refine ev_eq (lv' := [(4, .int (nI (k + 1))), (5, .int (nI (6))), (0, .ref 0), (1, .int (zI (-1))), (2, .int (nI (winB S 1023))), (3, .ref 20)]) rfl rfl rfl ?_
              refine ev_b bX7_printed_142_28 (lv' := [(4, .int (nI (k + 1))), (5, .int (nI (6))), (0, .ref 0), (1, .int (zI (-1))), (2, .int (nI (winB S 1023))), (3, .ref 20)]) (st' := []) (w2 := modW 0 S ((X.rf, wo, ta, ow, 0, X.sh, X.lt, X.ty, X.pl, X.nu, X.od, X.tt, X.oo, X.on, X.wn, X.pd, X.li, X.rr, X.rn, X.dr) : ModN) (some kf) ++ sbW 20 s32) rfl ?_
              refine ev_pick (lv' := [(4, .int (nI (k + 1))), (0, .ref 0), (1, .int (zI (-1))), (2, .int (nI (winB S 1023))), (3, .ref 20)]) rfl ?_
              rw [show nI (k + 1) = nI ((k + 1)) from congrArg nI (by omega)]
              exact ih28 (k + 1) (by omega) s32 ⟨by rw [hE, show Lp ++ bidL S k = (((((Lp ++ numL (S.bd k)) ++ [58]) ++ itmL (S.st k) 6) ++ [61]) ++ numL (S.pr k)) from by unfold bidL; simp only [List.append_assoc]]; exact hL32, hB32⟩
            | succ j_ ih83 =>
              intro e hk83 s5 hinv83
              have hlt83 : e < 6 := by omega
              obtain ⟨hLi, hBi⟩ := hinv83
              have hli : (((Lp ++ numL (S.bd k)) ++ [58]) ++ itmL (S.st k) e).length ≤ 52 := by
                have h7 := num_len (S.bd k)
                have h8 := itm_le (S.st k) e (by omega)
                simp only [List.length_append, List.length_cons, List.length_nil]
                omega
              refine ev_b bX7_printed_83_87 (lv' := [(5, .int (nI (e))), (0, .ref 0), (1, .int (zI (-1))), (2, .int (nI (winB S 1023))), (3, .ref 20), (4, .int (nI (k)))]) (st' := [.int (nI (6)), .int (nI (e))]) (w2 := modW 0 S ((X.rf, wo, ta, ow, 0, X.sh, X.lt, X.ty, X.pl, X.nu, X.od, X.tt, X.oo, X.on, X.wn, X.pd, X.li, X.rr, X.rn, X.dr) : ModN) (some kf) ++ sbW 20 s5) rfl ?_
              refine ev_icmp_ge_n (tgt := 122) (by omega) (by decide) dX7_printed_87 (by decide) (fun h87 => (by exfalso; omega)) (fun h87 => ?_)
              refine ev_b bX7_printed_90_96 (lv' := [(5, .int (nI (e))), (0, .ref 0), (1, .int (zI (-1))), (2, .int (nI (winB S 1023))), (3, .ref 20), (4, .int (nI (k)))]) (st' := [.int (nI (k)), .ref 5]) (w2 := modW 0 S ((X.rf, wo, ta, ow, 0, X.sh, X.lt, X.ty, X.pl, X.nu, X.od, X.tt, X.oo, X.on, X.wn, X.pd, X.li, X.rr, X.rn, X.dr) : ModN) (some kf) ++ sbW 20 s5) rfl ?_
              refine ev_iald_n (f := S.st) dX7_printed_96 rfl (by omega) (by decide) ?_
              refine ev_b bX7_printed_97_99 (lv' := [(5, .int (nI (e))), (0, .ref 0), (1, .int (zI (-1))), (2, .int (nI (winB S 1023))), (3, .ref 20), (4, .int (nI (k)))]) (st' := [.int (nI (e)), .int (nI (S.st k))]) (w2 := modW 0 S ((X.rf, wo, ta, ow, 0, X.sh, X.lt, X.ty, X.pl, X.nu, X.od, X.tt, X.oo, X.on, X.wn, X.pd, X.li, X.rr, X.rn, X.dr) : ModN) (some kf) ++ sbW 20 s5) rfl ?_
              refine ev_callS (Yc := mX7_has) [] dX7_printed_99 tw_1057 kX7_has (m_X7_has (S.st k) e (by omega) (by omega)) rfl (st := []) rfl (by decide) rfl (by decide) (Nat.le_of_ble_eq_true rfl) (ncF_le _) (nsF_le _) (fun r w' h => by obtain ⟨-, rfl⟩ := h; exact Nat.le_of_ble_eq_true rfl) ?_
              rintro _ _ ⟨rfl, rfl⟩
              refine ev_eq (lv' := [(5, .int (nI (e))), (0, .ref 0), (1, .int (zI (-1))), (2, .int (nI (winB S 1023))), (3, .ref 20), (4, .int (nI (k)))]) (st' := [.int (nI (b01 ((S.st k).testBit e = true)))]) (w' := modW 0 S ((X.rf, wo, ta, ow, 0, X.sh, X.lt, X.ty, X.pl, X.nu, X.od, X.tt, X.oo, X.on, X.wn, X.pd, X.li, X.rr, X.rn, X.dr) : ModN) (some kf) ++ sbW 20 s5) rfl rfl rfl ?_
              refine ev_ifeq_b (tgt := 116) dX7_printed_102 (by decide) (fun h102 => ?_) (fun h102 => ?_)
              · skip
                refine ev_iinc_n (x := e) (v := 1) dX7_printed_116 rfl (by decide) ?_
                refine ev_eq (lv' := [(5, .int (nI (e + 1))), (0, .ref 0), (1, .int (zI (-1))), (2, .int (nI (winB S 1023))), (3, .ref 20), (4, .int (nI (k)))]) rfl rfl rfl ?_
                refine ev_b bX7_printed_119_83 (lv' := [(5, .int (nI (e + 1))), (0, .ref 0), (1, .int (zI (-1))), (2, .int (nI (winB S 1023))), (3, .ref 20), (4, .int (nI (k)))]) (st' := []) (w2 := modW 0 S ((X.rf, wo, ta, ow, 0, X.sh, X.lt, X.ty, X.pl, X.nu, X.od, X.tt, X.oo, X.on, X.wn, X.pd, X.li, X.rr, X.rn, X.dr) : ModN) (some kf) ++ sbW 20 s5) rfl ?_
                rw [show nI (e + 1) = nI ((e + 1)) from congrArg nI (by omega)]
                exact ih83 (e + 1) (by omega) s5 ⟨by rw [itmL_s, if_neg h102]; exact hLi, hBi⟩
              · skip
                refine ev_b bX7_printed_105_110 (lv' := [(5, .int (nI (e))), (0, .ref 0), (1, .int (zI (-1))), (2, .int (nI (winB S 1023))), (3, .ref 20), (4, .int (nI (k)))]) (st' := [.int (nI (e)), .int (nI (97)), .ref 20]) (w2 := modW 0 S ((X.rf, wo, ta, ow, 0, X.sh, X.lt, X.ty, X.pl, X.nu, X.od, X.tt, X.oo, X.on, X.wn, X.pd, X.li, X.rr, X.rn, X.dr) : ModN) (some kf) ++ sbW 20 s5) rfl ?_
                refine ev_iadd_n dX7_printed_110 ?_
                refine ev_i2c (v := (nI (97 + e))) dX7_printed_111 (by exact (sb_byte (97 + e) (by omega)).2.1) ?_
                refine ev_appC_s (st := []) dX7_printed_112 tw_1337 rfl rfl (Nat.le_of_ble_eq_true rfl) (by decide) (Nat.le_of_ble_eq_true rfl) hLi hBi (by have := hli; omega) (by omega) ?_
                intro s33 hL33 hB33
                have hl33 : ((((Lp ++ numL (S.bd k)) ++ [58]) ++ itmL (S.st k) e) ++ [97 + e]).length ≤ 53 := by rw [List.length_append]; show _ + 1 ≤ _; omega
                refine ev_eq (lv' := [(5, .int (nI (e))), (0, .ref 0), (1, .int (zI (-1))), (2, .int (nI (winB S 1023))), (3, .ref 20), (4, .int (nI (k)))]) (st' := [.ref 20]) (w' := modW 0 S ((X.rf, wo, ta, ow, 0, X.sh, X.lt, X.ty, X.pl, X.nu, X.od, X.tt, X.oo, X.on, X.wn, X.pd, X.li, X.rr, X.rn, X.dr) : ModN) (some kf) ++ sbW 20 s33) rfl rfl rfl ?_
                refine ev_b bX7_printed_115_116 (lv' := [(5, .int (nI (e))), (0, .ref 0), (1, .int (zI (-1))), (2, .int (nI (winB S 1023))), (3, .ref 20), (4, .int (nI (k)))]) (st' := []) (w2 := modW 0 S ((X.rf, wo, ta, ow, 0, X.sh, X.lt, X.ty, X.pl, X.nu, X.od, X.tt, X.oo, X.on, X.wn, X.pd, X.li, X.rr, X.rn, X.dr) : ModN) (some kf) ++ sbW 20 s33) rfl ?_
                refine ev_iinc_n (x := e) (v := 1) dX7_printed_116 rfl (by decide) ?_
                refine ev_eq (lv' := [(5, .int (nI (e + 1))), (0, .ref 0), (1, .int (zI (-1))), (2, .int (nI (winB S 1023))), (3, .ref 20), (4, .int (nI (k)))]) rfl rfl rfl ?_
                refine ev_b bX7_printed_119_83 (lv' := [(5, .int (nI (e + 1))), (0, .ref 0), (1, .int (zI (-1))), (2, .int (nI (winB S 1023))), (3, .ref 20), (4, .int (nI (k)))]) (st' := []) (w2 := modW 0 S ((X.rf, wo, ta, ow, 0, X.sh, X.lt, X.ty, X.pl, X.nu, X.od, X.tt, X.oo, X.on, X.wn, X.pd, X.li, X.rr, X.rn, X.dr) : ModN) (some kf) ++ sbW 20 s33) rfl ?_
                rw [show nI (e + 1) = nI ((e + 1)) from congrArg nI (by omega)]
                exact ih83 (e + 1) (by omega) s33 ⟨by rw [itmL_s, if_pos h102, ← List.append_assoc]; exact hL33, hB33⟩
          refine ev_pick (lv' := [(5, .int (nI (0))), (0, .ref 0), (1, .int (zI (-1))), (2, .int (nI (winB S 1023))), (3, .ref 20), (4, .int (nI (k)))]) rfl ?_
          exact L83 6 0 (by omega) s30 ⟨by rw [show itmL (S.st k) 0 = [] from rfl, List.append_nil]; exact hL30, hB30⟩
        · skip
          refine ev_b bX7_printed_56_59 (lv' := [(4, .int (nI (k))), (0, .ref 0), (1, .int (zI (-1))), (2, .int (nI (winB S 1023))), (3, .ref 20)]) (st' := [.int (nI (59)), .ref 20]) (w2 := modW 0 S ((X.rf, wo, ta, ow, 0, X.sh, X.lt, X.ty, X.pl, X.nu, X.od, X.tt, X.oo, X.on, X.wn, X.pd, X.li, X.rr, X.rn, X.dr) : ModN) (some kf) ++ sbW 20 s) rfl ?_
          refine ev_appC_s (st := []) dX7_printed_59 tw_1337 rfl rfl (Nat.le_of_ble_eq_true rfl) (by decide) (Nat.le_of_ble_eq_true rfl) hL hB (by have := hl; omega) (by omega) ?_
          intro s34 hL34 hB34
          have hl34 : ((winL S (winB S 1023) k) ++ [59]).length ≤ 43 := by rw [List.length_append]; show _ + 1 ≤ _; omega
          refine ev_eq (lv' := [(4, .int (nI (k))), (0, .ref 0), (1, .int (zI (-1))), (2, .int (nI (winB S 1023))), (3, .ref 20)]) (st' := [.ref 20]) (w' := modW 0 S ((X.rf, wo, ta, ow, 0, X.sh, X.lt, X.ty, X.pl, X.nu, X.od, X.tt, X.oo, X.on, X.wn, X.pd, X.li, X.rr, X.rn, X.dr) : ModN) (some kf) ++ sbW 20 s34) rfl rfl rfl ?_
          refine ev_b bX7_printed_62_63 (lv' := [(4, .int (nI (k))), (0, .ref 0), (1, .int (zI (-1))), (2, .int (nI (winB S 1023))), (3, .ref 20)]) (st' := []) (w2 := modW 0 S ((X.rf, wo, ta, ow, 0, X.sh, X.lt, X.ty, X.pl, X.nu, X.od, X.tt, X.oo, X.on, X.wn, X.pd, X.li, X.rr, X.rn, X.dr) : ModN) (some kf) ++ sbW 20 s34) rfl ?_
          obtain ⟨Lp, hE, hLp, hlp⟩ : ∃ Lp : List Nat, winL S (winB S 1023) (k + 1) = Lp ++ bidL S k ∧ SbL Lp s34 ∧ Lp.length ≤ 42 := by
            have e : winL S (winB S 1023) (k + 1) = (winL S (winB S 1023) k ++ [59]) ++ bidL S k := by rw [winL_s, if_pos h43, if_neg (by rw [← hL.1]; omega)]
            refine ⟨winL S (winB S 1023) k ++ [59], e, hL34, ?_⟩
            have h9 := hwl
            rw [e, List.length_append] at h9
            omega
          have hBp := hB34
          refine ev_b bX7_printed_63_70 (lv' := [(4, .int (nI (k))), (0, .ref 0), (1, .int (zI (-1))), (2, .int (nI (winB S 1023))), (3, .ref 20)]) (st' := [.int (nI (k)), .ref 4, .ref 20]) (w2 := modW 0 S ((X.rf, wo, ta, ow, 0, X.sh, X.lt, X.ty, X.pl, X.nu, X.od, X.tt, X.oo, X.on, X.wn, X.pd, X.li, X.rr, X.rn, X.dr) : ModN) (some kf) ++ sbW 20 s34) rfl ?_
          refine ev_iald_n (f := S.bd) dX7_printed_70 rfl (by omega) (by decide) ?_
          refine ev_appI_s (st := []) dX7_printed_71 tw_1406 rfl rfl (Nat.le_of_ble_eq_true rfl) (by decide) (Nat.le_of_ble_eq_true rfl) hLp hBp (by have := hlp; omega) (by omega) ?_
          intro s35 hL35 hB35
          have hl35 : (Lp ++ numL (S.bd k)).length ≤ 45 := by rw [List.length_append]; have := num_len (S.bd k); omega
          refine ev_eq (lv' := [(4, .int (nI (k))), (0, .ref 0), (1, .int (zI (-1))), (2, .int (nI (winB S 1023))), (3, .ref 20)]) (st' := [.ref 20]) (w' := modW 0 S ((X.rf, wo, ta, ow, 0, X.sh, X.lt, X.ty, X.pl, X.nu, X.od, X.tt, X.oo, X.on, X.wn, X.pd, X.li, X.rr, X.rn, X.dr) : ModN) (some kf) ++ sbW 20 s35) rfl rfl rfl ?_
          refine ev_b bX7_printed_74_76 (lv' := [(4, .int (nI (k))), (0, .ref 0), (1, .int (zI (-1))), (2, .int (nI (winB S 1023))), (3, .ref 20)]) (st' := [.int (nI (58)), .ref 20]) (w2 := modW 0 S ((X.rf, wo, ta, ow, 0, X.sh, X.lt, X.ty, X.pl, X.nu, X.od, X.tt, X.oo, X.on, X.wn, X.pd, X.li, X.rr, X.rn, X.dr) : ModN) (some kf) ++ sbW 20 s35) rfl ?_
          refine ev_appC_s (st := []) dX7_printed_76 tw_1337 rfl rfl (Nat.le_of_ble_eq_true rfl) (by decide) (Nat.le_of_ble_eq_true rfl) hL35 hB35 (by have := hl35; omega) (by omega) ?_
          intro s36 hL36 hB36
          have hl36 : ((Lp ++ numL (S.bd k)) ++ [58]).length ≤ 46 := by rw [List.length_append]; show _ + 1 ≤ _; omega
          refine ev_eq (lv' := [(4, .int (nI (k))), (0, .ref 0), (1, .int (zI (-1))), (2, .int (nI (winB S 1023))), (3, .ref 20)]) (st' := [.ref 20]) (w' := modW 0 S ((X.rf, wo, ta, ow, 0, X.sh, X.lt, X.ty, X.pl, X.nu, X.od, X.tt, X.oo, X.on, X.wn, X.pd, X.li, X.rr, X.rn, X.dr) : ModN) (some kf) ++ sbW 20 s36) rfl rfl rfl ?_
          refine ev_b bX7_printed_79_83 (lv' := [(5, .int (nI (0))), (4, .int (nI (k))), (0, .ref 0), (1, .int (zI (-1))), (2, .int (nI (winB S 1023))), (3, .ref 20)]) (st' := []) (w2 := modW 0 S ((X.rf, wo, ta, ow, 0, X.sh, X.lt, X.ty, X.pl, X.nu, X.od, X.tt, X.oo, X.on, X.wn, X.pd, X.li, X.rr, X.rn, X.dr) : ModN) (some kf) ++ sbW 20 s36) rfl ?_
          have L83 : ∀ (j_ e : Nat), e + j_ = 6 → ∀ (s5 : SbN), (SbL (((Lp ++ numL (S.bd k)) ++ [58]) ++ itmL (S.st k) e) s5 ∧ SbM s5) → Ev l E mX7_printed (6) 4 124 (modW 0 S X (some kf)) (MP S (some kf) (X.lt) (X.ty) (X.rr) (X.rn) (X.rf) (some (.int (nI ((txtL S).length))))) (ncF s5.m) (nsF s5.m) 83 [(5, .int (nI (e))), (0, .ref 0), (1, .int (zI (-1))), (2, .int (nI (winB S 1023))), (3, .ref 20), (4, .int (nI (k)))] [] (modW 0 S ((X.rf, wo, ta, ow, 0, X.sh, X.lt, X.ty, X.pl, X.nu, X.od, X.tt, X.oo, X.on, X.wn, X.pd, X.li, X.rr, X.rn, X.dr) : ModN) (some kf) ++ sbW 20 s5) := by
            intro j_
            induction j_ with
            | zero =>
              intro e hk83 s5 hinv83
              replace hk83 : e = 6 := hk83
              subst hk83
              obtain ⟨hLi, hBi⟩ := hinv83
              have hli : (((Lp ++ numL (S.bd k)) ++ [58]) ++ itmL (S.st k) 6).length ≤ 52 := by
                have h7 := num_len (S.bd k)
                have h8 := itm_le (S.st k) 6 (by omega)
                simp only [List.length_append, List.length_cons, List.length_nil]
                omega
              refine ev_b bX7_printed_83_87 (lv' := [(5, .int (nI (6))), (0, .ref 0), (1, .int (zI (-1))), (2, .int (nI (winB S 1023))), (3, .ref 20), (4, .int (nI (k)))]) (st' := [.int (nI (6)), .int (nI (6))]) (w2 := modW 0 S ((X.rf, wo, ta, ow, 0, X.sh, X.lt, X.ty, X.pl, X.nu, X.od, X.tt, X.oo, X.on, X.wn, X.pd, X.li, X.rr, X.rn, X.dr) : ModN) (some kf) ++ sbW 20 s5) rfl ?_
              refine ev_icmp_ge_n (tgt := 122) (by decide) (by decide) dX7_printed_87 (by decide) (fun h87 => ?_) (fun h87 => (by exfalso; omega))
              refine ev_b bX7_printed_122_125 (lv' := [(5, .int (nI (6))), (0, .ref 0), (1, .int (zI (-1))), (2, .int (nI (winB S 1023))), (3, .ref 20), (4, .int (nI (k)))]) (st' := [.int (nI (61)), .ref 20]) (w2 := modW 0 S ((X.rf, wo, ta, ow, 0, X.sh, X.lt, X.ty, X.pl, X.nu, X.od, X.tt, X.oo, X.on, X.wn, X.pd, X.li, X.rr, X.rn, X.dr) : ModN) (some kf) ++ sbW 20 s5) rfl ?_
              refine ev_appC_s (st := []) dX7_printed_125 tw_1337 rfl rfl (Nat.le_of_ble_eq_true rfl) (by decide) (Nat.le_of_ble_eq_true rfl) hLi hBi (by have := hli; omega) (by omega) ?_
              intro s37 hL37 hB37
              have hl37 : ((((Lp ++ numL (S.bd k)) ++ [58]) ++ itmL (S.st k) 6) ++ [61]).length ≤ 53 := by rw [List.length_append]; show _ + 1 ≤ _; omega
              refine ev_eq (lv' := [(5, .int (nI (6))), (0, .ref 0), (1, .int (zI (-1))), (2, .int (nI (winB S 1023))), (3, .ref 20), (4, .int (nI (k)))]) (st' := [.ref 20]) (w' := modW 0 S ((X.rf, wo, ta, ow, 0, X.sh, X.lt, X.ty, X.pl, X.nu, X.od, X.tt, X.oo, X.on, X.wn, X.pd, X.li, X.rr, X.rn, X.dr) : ModN) (some kf) ++ sbW 20 s37) rfl rfl rfl ?_
              refine ev_b bX7_printed_128_134 (lv' := [(5, .int (nI (6))), (0, .ref 0), (1, .int (zI (-1))), (2, .int (nI (winB S 1023))), (3, .ref 20), (4, .int (nI (k)))]) (st' := [.int (nI (k)), .ref 6, .ref 20]) (w2 := modW 0 S ((X.rf, wo, ta, ow, 0, X.sh, X.lt, X.ty, X.pl, X.nu, X.od, X.tt, X.oo, X.on, X.wn, X.pd, X.li, X.rr, X.rn, X.dr) : ModN) (some kf) ++ sbW 20 s37) rfl ?_
              refine ev_iald_n (f := S.pr) dX7_printed_134 rfl (by omega) (by decide) ?_
              refine ev_appI_s (st := []) dX7_printed_135 tw_1406 rfl rfl (Nat.le_of_ble_eq_true rfl) (by decide) (Nat.le_of_ble_eq_true rfl) hL37 hB37 (by have := hl37; omega) (by omega) ?_
              intro s38 hL38 hB38
              have hl38 : (((((Lp ++ numL (S.bd k)) ++ [58]) ++ itmL (S.st k) 6) ++ [61]) ++ numL (S.pr k)).length ≤ 56 := by rw [List.length_append]; have := num_len (S.pr k); omega
              refine ev_eq (lv' := [(5, .int (nI (6))), (0, .ref 0), (1, .int (zI (-1))), (2, .int (nI (winB S 1023))), (3, .ref 20), (4, .int (nI (k)))]) (st' := [.ref 20]) (w' := modW 0 S ((X.rf, wo, ta, ow, 0, X.sh, X.lt, X.ty, X.pl, X.nu, X.od, X.tt, X.oo, X.on, X.wn, X.pd, X.li, X.rr, X.rn, X.dr) : ModN) (some kf) ++ sbW 20 s38) rfl rfl rfl ?_
              refine ev_b bX7_printed_138_139 (lv' := [(5, .int (nI (6))), (0, .ref 0), (1, .int (zI (-1))), (2, .int (nI (winB S 1023))), (3, .ref 20), (4, .int (nI (k)))]) (st' := []) (w2 := modW 0 S ((X.rf, wo, ta, ow, 0, X.sh, X.lt, X.ty, X.pl, X.nu, X.od, X.tt, X.oo, X.on, X.wn, X.pd, X.li, X.rr, X.rn, X.dr) : ModN) (some kf) ++ sbW 20 s38) rfl ?_
              refine ev_iinc_n (x := k) (v := 1) dX7_printed_139 rfl (by decide) ?_
              refine ev_eq (lv' := [(4, .int (nI (k + 1))), (5, .int (nI (6))), (0, .ref 0), (1, .int (zI (-1))), (2, .int (nI (winB S 1023))), (3, .ref 20)]) rfl rfl rfl ?_
              refine ev_b bX7_printed_142_28 (lv' := [(4, .int (nI (k + 1))), (5, .int (nI (6))), (0, .ref 0), (1, .int (zI (-1))), (2, .int (nI (winB S 1023))), (3, .ref 20)]) (st' := []) (w2 := modW 0 S ((X.rf, wo, ta, ow, 0, X.sh, X.lt, X.ty, X.pl, X.nu, X.od, X.tt, X.oo, X.on, X.wn, X.pd, X.li, X.rr, X.rn, X.dr) : ModN) (some kf) ++ sbW 20 s38) rfl ?_
              refine ev_pick (lv' := [(4, .int (nI (k + 1))), (0, .ref 0), (1, .int (zI (-1))), (2, .int (nI (winB S 1023))), (3, .ref 20)]) rfl ?_
              rw [show nI (k + 1) = nI ((k + 1)) from congrArg nI (by omega)]
              exact ih28 (k + 1) (by omega) s38 ⟨by rw [hE, show Lp ++ bidL S k = (((((Lp ++ numL (S.bd k)) ++ [58]) ++ itmL (S.st k) 6) ++ [61]) ++ numL (S.pr k)) from by unfold bidL; simp only [List.append_assoc]]; exact hL38, hB38⟩
            | succ j_ ih83 =>
              intro e hk83 s5 hinv83
              have hlt83 : e < 6 := by omega
              obtain ⟨hLi, hBi⟩ := hinv83
              have hli : (((Lp ++ numL (S.bd k)) ++ [58]) ++ itmL (S.st k) e).length ≤ 52 := by
                have h7 := num_len (S.bd k)
                have h8 := itm_le (S.st k) e (by omega)
                simp only [List.length_append, List.length_cons, List.length_nil]
                omega
              refine ev_b bX7_printed_83_87 (lv' := [(5, .int (nI (e))), (0, .ref 0), (1, .int (zI (-1))), (2, .int (nI (winB S 1023))), (3, .ref 20), (4, .int (nI (k)))]) (st' := [.int (nI (6)), .int (nI (e))]) (w2 := modW 0 S ((X.rf, wo, ta, ow, 0, X.sh, X.lt, X.ty, X.pl, X.nu, X.od, X.tt, X.oo, X.on, X.wn, X.pd, X.li, X.rr, X.rn, X.dr) : ModN) (some kf) ++ sbW 20 s5) rfl ?_
              refine ev_icmp_ge_n (tgt := 122) (by omega) (by decide) dX7_printed_87 (by decide) (fun h87 => (by exfalso; omega)) (fun h87 => ?_)
              refine ev_b bX7_printed_90_96 (lv' := [(5, .int (nI (e))), (0, .ref 0), (1, .int (zI (-1))), (2, .int (nI (winB S 1023))), (3, .ref 20), (4, .int (nI (k)))]) (st' := [.int (nI (k)), .ref 5]) (w2 := modW 0 S ((X.rf, wo, ta, ow, 0, X.sh, X.lt, X.ty, X.pl, X.nu, X.od, X.tt, X.oo, X.on, X.wn, X.pd, X.li, X.rr, X.rn, X.dr) : ModN) (some kf) ++ sbW 20 s5) rfl ?_
              refine ev_iald_n (f := S.st) dX7_printed_96 rfl (by omega) (by decide) ?_
              refine ev_b bX7_printed_97_99 (lv' := [(5, .int (nI (e))), (0, .ref 0), (1, .int (zI (-1))), (2, .int (nI (winB S 1023))), (3, .ref 20), (4, .int (nI (k)))]) (st' := [.int (nI (e)), .int (nI (S.st k))]) (w2 := modW 0 S ((X.rf, wo, ta, ow, 0, X.sh, X.lt, X.ty, X.pl, X.nu, X.od, X.tt, X.oo, X.on, X.wn, X.pd, X.li, X.rr, X.rn, X.dr) : ModN) (some kf) ++ sbW 20 s5) rfl ?_
              refine ev_callS (Yc := mX7_has) [] dX7_printed_99 tw_1057 kX7_has (m_X7_has (S.st k) e (by omega) (by omega)) rfl (st := []) rfl (by decide) rfl (by decide) (Nat.le_of_ble_eq_true rfl) (ncF_le _) (nsF_le _) (fun r w' h => by obtain ⟨-, rfl⟩ := h; exact Nat.le_of_ble_eq_true rfl) ?_
              rintro _ _ ⟨rfl, rfl⟩
              refine ev_eq (lv' := [(5, .int (nI (e))), (0, .ref 0), (1, .int (zI (-1))), (2, .int (nI (winB S 1023))), (3, .ref 20), (4, .int (nI (k)))]) (st' := [.int (nI (b01 ((S.st k).testBit e = true)))]) (w' := modW 0 S ((X.rf, wo, ta, ow, 0, X.sh, X.lt, X.ty, X.pl, X.nu, X.od, X.tt, X.oo, X.on, X.wn, X.pd, X.li, X.rr, X.rn, X.dr) : ModN) (some kf) ++ sbW 20 s5) rfl rfl rfl ?_
              refine ev_ifeq_b (tgt := 116) dX7_printed_102 (by decide) (fun h102 => ?_) (fun h102 => ?_)
              · skip
                refine ev_iinc_n (x := e) (v := 1) dX7_printed_116 rfl (by decide) ?_
                refine ev_eq (lv' := [(5, .int (nI (e + 1))), (0, .ref 0), (1, .int (zI (-1))), (2, .int (nI (winB S 1023))), (3, .ref 20), (4, .int (nI (k)))]) rfl rfl rfl ?_
                refine ev_b bX7_printed_119_83 (lv' := [(5, .int (nI (e + 1))), (0, .ref 0), (1, .int (zI (-1))), (2, .int (nI (winB S 1023))), (3, .ref 20), (4, .int (nI (k)))]) (st' := []) (w2 := modW 0 S ((X.rf, wo, ta, ow, 0, X.sh, X.lt, X.ty, X.pl, X.nu, X.od, X.tt, X.oo, X.on, X.wn, X.pd, X.li, X.rr, X.rn, X.dr) : ModN) (some kf) ++ sbW 20 s5) rfl ?_
                rw [show nI (e + 1) = nI ((e + 1)) from congrArg nI (by omega)]
                exact ih83 (e + 1) (by omega) s5 ⟨by rw [itmL_s, if_neg h102]; exact hLi, hBi⟩
              · skip
                refine ev_b bX7_printed_105_110 (lv' := [(5, .int (nI (e))), (0, .ref 0), (1, .int (zI (-1))), (2, .int (nI (winB S 1023))), (3, .ref 20), (4, .int (nI (k)))]) (st' := [.int (nI (e)), .int (nI (97)), .ref 20]) (w2 := modW 0 S ((X.rf, wo, ta, ow, 0, X.sh, X.lt, X.ty, X.pl, X.nu, X.od, X.tt, X.oo, X.on, X.wn, X.pd, X.li, X.rr, X.rn, X.dr) : ModN) (some kf) ++ sbW 20 s5) rfl ?_
                refine ev_iadd_n dX7_printed_110 ?_
                refine ev_i2c (v := (nI (97 + e))) dX7_printed_111 (by exact (sb_byte (97 + e) (by omega)).2.1) ?_
                refine ev_appC_s (st := []) dX7_printed_112 tw_1337 rfl rfl (Nat.le_of_ble_eq_true rfl) (by decide) (Nat.le_of_ble_eq_true rfl) hLi hBi (by have := hli; omega) (by omega) ?_
                intro s39 hL39 hB39
                have hl39 : ((((Lp ++ numL (S.bd k)) ++ [58]) ++ itmL (S.st k) e) ++ [97 + e]).length ≤ 53 := by rw [List.length_append]; show _ + 1 ≤ _; omega
                refine ev_eq (lv' := [(5, .int (nI (e))), (0, .ref 0), (1, .int (zI (-1))), (2, .int (nI (winB S 1023))), (3, .ref 20), (4, .int (nI (k)))]) (st' := [.ref 20]) (w' := modW 0 S ((X.rf, wo, ta, ow, 0, X.sh, X.lt, X.ty, X.pl, X.nu, X.od, X.tt, X.oo, X.on, X.wn, X.pd, X.li, X.rr, X.rn, X.dr) : ModN) (some kf) ++ sbW 20 s39) rfl rfl rfl ?_
                refine ev_b bX7_printed_115_116 (lv' := [(5, .int (nI (e))), (0, .ref 0), (1, .int (zI (-1))), (2, .int (nI (winB S 1023))), (3, .ref 20), (4, .int (nI (k)))]) (st' := []) (w2 := modW 0 S ((X.rf, wo, ta, ow, 0, X.sh, X.lt, X.ty, X.pl, X.nu, X.od, X.tt, X.oo, X.on, X.wn, X.pd, X.li, X.rr, X.rn, X.dr) : ModN) (some kf) ++ sbW 20 s39) rfl ?_
                refine ev_iinc_n (x := e) (v := 1) dX7_printed_116 rfl (by decide) ?_
                refine ev_eq (lv' := [(5, .int (nI (e + 1))), (0, .ref 0), (1, .int (zI (-1))), (2, .int (nI (winB S 1023))), (3, .ref 20), (4, .int (nI (k)))]) rfl rfl rfl ?_
                refine ev_b bX7_printed_119_83 (lv' := [(5, .int (nI (e + 1))), (0, .ref 0), (1, .int (zI (-1))), (2, .int (nI (winB S 1023))), (3, .ref 20), (4, .int (nI (k)))]) (st' := []) (w2 := modW 0 S ((X.rf, wo, ta, ow, 0, X.sh, X.lt, X.ty, X.pl, X.nu, X.od, X.tt, X.oo, X.on, X.wn, X.pd, X.li, X.rr, X.rn, X.dr) : ModN) (some kf) ++ sbW 20 s39) rfl ?_
                rw [show nI (e + 1) = nI ((e + 1)) from congrArg nI (by omega)]
                exact ih83 (e + 1) (by omega) s39 ⟨by rw [itmL_s, if_pos h102, ← List.append_assoc]; exact hL39, hB39⟩
          refine ev_pick (lv' := [(5, .int (nI (0))), (0, .ref 0), (1, .int (zI (-1))), (2, .int (nI (winB S 1023))), (3, .ref 20), (4, .int (nI (k)))]) rfl ?_
          exact L83 6 0 (by omega) s36 ⟨by rw [show itmL (S.st k) 0 = [] from rfl, List.append_nil]; exact hL36, hB36⟩
      · skip
        refine ev_b bX7_printed_46_139 (lv' := [(4, .int (nI (k))), (0, .ref 0), (1, .int (zI (-1))), (2, .int (nI (winB S 1023))), (3, .ref 20)]) (st' := []) (w2 := modW 0 S ((X.rf, wo, ta, ow, 0, X.sh, X.lt, X.ty, X.pl, X.nu, X.od, X.tt, X.oo, X.on, X.wn, X.pd, X.li, X.rr, X.rn, X.dr) : ModN) (some kf) ++ sbW 20 s) rfl ?_
        refine ev_iinc_n (x := k) (v := 1) dX7_printed_139 rfl (by decide) ?_
        refine ev_eq (lv' := [(4, .int (nI (k + 1))), (0, .ref 0), (1, .int (zI (-1))), (2, .int (nI (winB S 1023))), (3, .ref 20)]) rfl rfl rfl ?_
        refine ev_b bX7_printed_142_28 (lv' := [(4, .int (nI (k + 1))), (0, .ref 0), (1, .int (zI (-1))), (2, .int (nI (winB S 1023))), (3, .ref 20)]) (st' := []) (w2 := modW 0 S ((X.rf, wo, ta, ow, 0, X.sh, X.lt, X.ty, X.pl, X.nu, X.od, X.tt, X.oo, X.on, X.wn, X.pd, X.li, X.rr, X.rn, X.dr) : ModN) (some kf) ++ sbW 20 s) rfl ?_
        rw [show nI (k + 1) = nI ((k + 1)) from congrArg nI (by omega)]
        exact ih28 (k + 1) (by omega) s ⟨by rw [winL_s, if_neg h43]; exact hL, hB⟩
  refine ev_pick (lv' := [(4, .int (nI (0))), (0, .ref 0), (1, .int (zI (-1))), (2, .int (nI (winB S 1023))), (3, .ref 20)]) rfl ?_
  exact L28 S.ca 0 (by omega) ((fun _ => 0, 16, 0) : SbN) ⟨sbL_0, Or.inl rfl⟩
