theorem bX7_count_0_1 {l : Launch} {E : XE} : Snd l E mX7_count 0 1 (xs [x_iload 1]) := Snd.cons (snd_iload_n (i := 1) dX7_count_0 rfl) Snd.nil
theorem bX7_count_44_48 {l : Launch} {E : XE} : Snd l E mX7_count 44 48 (xs [x_aload 0, x_get 8 6]) := Snd.cons (snd_aload_n (i := 0) dX7_count_44 rfl) (Snd.cons (snd_get (ci := 8) (k := 6) dX7_count_45 rfl inX7 (by decide) tw_920) Snd.nil)
set_option maxHeartbeats 4000000 in
set_option maxRecDepth 100000 in
theorem q_count_w0 {l : Launch} {E : XE} (S : SaleN) (X : ModN) (K : Option (Nat → Nat))  (hS : SaleOK S) (hM : MOK S X)  : MetE l E mX7_count (0) 0 0 [.ref 0, .int (nI (0))] (modW 0 S X K) (MP S K (X.lt) (X.ty) (X.rr) (X.rn) (X.rf) (some (.int (nI (S.ca))))) := by
  refine MetE.of (by decide +kernel) (Nat.le_of_ble_eq_true rfl) ?_
  have hca := hS.1
  have hpw := pow_ca hS
  have hac := ac_lt hS
  have hshl := shl_le hS
  
  refine ev_eq (lv' := [(0, .ref 0), (1, .int (nI (0)))]) (st' := []) (w' := modW 0 S X K) rfl rfl rfl ?_
  refine ev_b bX7_count_0_1 (lv' := [(0, .ref 0), (1, .int (nI (0)))]) (st' := [.int (nI (0))]) (w2 := modW 0 S X K) rfl ?_
  refine ev_tableIn (off := 43) (tgt := 44) dX7_count_1 (by decide) (by decide) (by decide) (by decide) ?_
  refine ev_b bX7_count_44_48 (lv' := [(0, .ref 0), (1, .int (nI (0)))]) (st' := [.int (nI (S.ca))]) (w2 := modW 0 S X K) rfl ?_
  exact ev_iret dX7_count_48 rfl mod_le (Nat.le_refl _) (Nat.le_refl _) ⟨rfl, _, rfl, hM, rfl, rfl, rfl, rfl, rfl⟩
theorem bX7_count_49_53 {l : Launch} {E : XE} : Snd l E mX7_count 49 53 (xs [x_aload 0, x_get 8 7]) := Snd.cons (snd_aload_n (i := 0) dX7_count_49 rfl) (Snd.cons (snd_get (ci := 8) (k := 7) dX7_count_50 rfl inX7 (by decide) tw_921) Snd.nil)
set_option maxHeartbeats 4000000 in
set_option maxRecDepth 100000 in
theorem q_count_w1 {l : Launch} {E : XE} (S : SaleN) (X : ModN) (K : Option (Nat → Nat))  (hS : SaleOK S) (hM : MOK S X)  : MetE l E mX7_count (0) 0 0 [.ref 0, .int (nI (1))] (modW 0 S X K) (MP S K (X.lt) (X.ty) (X.rr) (X.rn) (X.rf) (some (.int (nI (S.ac))))) := by
  refine MetE.of (by decide +kernel) (Nat.le_of_ble_eq_true rfl) ?_
  have hca := hS.1
  have hpw := pow_ca hS
  have hac := ac_lt hS
  have hshl := shl_le hS
  
  refine ev_eq (lv' := [(0, .ref 0), (1, .int (nI (1)))]) (st' := []) (w' := modW 0 S X K) rfl rfl rfl ?_
  refine ev_b bX7_count_0_1 (lv' := [(0, .ref 0), (1, .int (nI (1)))]) (st' := [.int (nI (1))]) (w2 := modW 0 S X K) rfl ?_
  refine ev_tableIn (off := 48) (tgt := 49) dX7_count_1 (by decide) (by decide) (by decide) (by decide) ?_
  refine ev_b bX7_count_49_53 (lv' := [(0, .ref 0), (1, .int (nI (1)))]) (st' := [.int (nI (S.ac))]) (w2 := modW 0 S X K) rfl ?_
  exact ev_iret dX7_count_53 rfl mod_le (Nat.le_refl _) (Nat.le_refl _) ⟨rfl, _, rfl, hM, rfl, rfl, rfl, rfl, rfl⟩
theorem bX7_count_54_59 {l : Launch} {E : XE} : Snd l E mX7_count 54 59 (xs [x_aload 0, x_aload 0, x_get 8 0]) := Snd.cons (snd_aload_n (i := 0) dX7_count_54 rfl) (Snd.cons (snd_aload_n (i := 0) dX7_count_55 rfl) (Snd.cons (snd_get (ci := 8) (k := 0) dX7_count_56 rfl inX7 (by decide) tw_914) Snd.nil))
set_option maxHeartbeats 4000000 in
set_option maxRecDepth 100000 in
theorem q_count_w2 {l : Launch} {E : XE} (S : SaleN) (X : ModN) (K : Option (Nat → Nat))  (hS : SaleOK S) (hM : MOK S X)  : MetE l E mX7_count (1) 0 0 [.ref 0, .int (nI (2))] (modW 0 S X K) (MP S K (X.lt) (X.ty) (X.rr) (X.rn) (X.rf) (some (.int (nI (rbTo S.rs 0 6))))) := by
  refine MetE.of (by decide +kernel) (Nat.le_of_ble_eq_true rfl) ?_
  have hca := hS.1
  have hpw := pow_ca hS
  have hac := ac_lt hS
  have hshl := shl_le hS
  
  refine ev_eq (lv' := [(0, .ref 0), (1, .int (nI (2)))]) (st' := []) (w' := modW 0 S X K) rfl rfl rfl ?_
  refine ev_b bX7_count_0_1 (lv' := [(0, .ref 0), (1, .int (nI (2)))]) (st' := [.int (nI (2))]) (w2 := modW 0 S X K) rfl ?_
  refine ev_tableIn (off := 53) (tgt := 54) dX7_count_1 (by decide) (by decide) (by decide) (by decide) ?_
  refine ev_b bX7_count_54_59 (lv' := [(0, .ref 0), (1, .int (nI (2)))]) (st' := [.ref 1, .ref 0]) (w2 := modW 0 S X K) rfl ?_
  refine ev_callM (Yc := mX7_together) (st := []) dX7_count_59 tw_1240 kX7_together (m_X7_together_r S X K) rfl rfl rfl rfl (by decide) (Nat.le_of_ble_eq_true rfl) (Nat.le_refl _) (Nat.le_refl _) (fun r w' h => by obtain ⟨-, rfl⟩ := h; exact mod_eq) ?_
  rintro _ _ ⟨rfl, rfl⟩
  refine ev_eq (lv' := [(0, .ref 0), (1, .int (nI (2)))]) (st' := [.int (nI (rbTo S.rs 0 6))]) (w' := modW 0 S X K) rfl rfl rfl ?_
  exact ev_iret dX7_count_62 rfl mod_le (Nat.le_refl _) (Nat.le_refl _) ⟨rfl, _, rfl, hM, rfl, rfl, rfl, rfl, rfl⟩
theorem bX7_count_63_64 {l : Launch} {E : XE} : Snd l E mX7_count 63 64 (xs [x_aload 0]) := Snd.cons (snd_aload_n (i := 0) dX7_count_63 rfl) Snd.nil
theorem bX7_count_67_71 {l : Launch} {E : XE} : Snd l E mX7_count 67 71 (xs [x_push (.int (nI 0)), x_istore 2, x_push (.int (nI 0)), x_istore 3]) := Snd.cons (snd_iconst (v := nI 0) dX7_count_67 (by decide)) (Snd.cons (snd_istore_n (i := 2) dX7_count_68 rfl (by decide)) (Snd.cons (snd_iconst (v := nI 0) dX7_count_69 (by decide)) (Snd.cons (snd_istore_n (i := 3) dX7_count_70 rfl (by decide)) Snd.nil)))
theorem bX7_count_71_73 {l : Launch} {E : XE} : Snd l E mX7_count 71 73 (xs [x_iload 3, x_push (.int (nI 5))]) := Snd.cons (snd_iload_n (i := 3) dX7_count_71 rfl) (Snd.cons (snd_iconst (v := nI 5) dX7_count_72 (by decide)) Snd.nil)
theorem bX7_count_101_102 {l : Launch} {E : XE} : Snd l E mX7_count 101 102 (xs [x_iload 2]) := Snd.cons (snd_iload_n (i := 2) dX7_count_101 rfl) Snd.nil
theorem bX7_count_76_82 {l : Launch} {E : XE} : Snd l E mX7_count 76 82 (xs [x_iload 2, x_aload 0, x_get 8 24, x_iload 3]) := Snd.cons (snd_iload_n (i := 2) dX7_count_76 rfl) (Snd.cons (snd_aload_n (i := 0) dX7_count_77 rfl) (Snd.cons (snd_get (ci := 8) (k := 24) dX7_count_78 rfl inX7 (by decide) tw_938) (Snd.cons (snd_iload_n (i := 3) dX7_count_81 rfl) Snd.nil)))
theorem bX7_count_92_93 {l : Launch} {E : XE} : Snd l E mX7_count 92 93 (xs [x_push (.int (nI 0))]) := Snd.cons (snd_iconst (v := nI 0) dX7_count_92 (by decide)) Snd.nil
theorem bX7_count_94_95 {l : Launch} {E : XE} : Snd l E mX7_count 94 95 (xs [x_istore 2]) := Snd.cons (snd_istore_n (i := 2) dX7_count_94 rfl (by decide)) Snd.nil
theorem bX7_count_98_71 {l : Launch} {E : XE} : Snd l E mX7_count 98 71 (xs [x_id]) := Snd.cons (snd_goto (tgt := 71) dX7_count_98 (by decide)) Snd.nil
theorem bX7_count_86_88 {l : Launch} {E : XE} : Snd l E mX7_count 86 88 (xs [x_push (.int (nI 1)), x_iload 3]) := Snd.cons (snd_iconst (v := nI 1) dX7_count_86 (by decide)) (Snd.cons (snd_iload_n (i := 3) dX7_count_87 rfl) Snd.nil)
theorem bX7_count_89_93 {l : Launch} {E : XE} : Snd l E mX7_count 89 93 (xs [x_id]) := Snd.cons (snd_goto (tgt := 93) dX7_count_89 (by decide)) Snd.nil
set_option maxHeartbeats 4000000 in
set_option maxRecDepth 100000 in
theorem q_count_w3 {l : Launch} {E : XE} (S : SaleN) (X : ModN) (K : Option (Nat → Nat))  (hS : SaleOK S) (hM : MOK S X)  : MetE l E mX7_count (7) 0 0 [.ref 0, .int (nI (3))] (modW 0 S X K) (MP S K (X.lt) (X.ty) (X.rr) (X.rn) (X.rf) (some (.int (nI (hapTo (wonZ S) 5))))) := by
  refine MetE.of (by decide +kernel) (Nat.le_of_ble_eq_true rfl) ?_
  have hca := hS.1
  have hpw := pow_ca hS
  have hac := ac_lt hS
  have hshl := shl_le hS
  
  refine ev_eq (lv' := [(0, .ref 0), (1, .int (nI (3)))]) (st' := []) (w' := modW 0 S X K) rfl rfl rfl ?_
  refine ev_b bX7_count_0_1 (lv' := [(0, .ref 0), (1, .int (nI (3)))]) (st' := [.int (nI (3))]) (w2 := modW 0 S X K) rfl ?_
  refine ev_tableIn (off := 62) (tgt := 63) dX7_count_1 (by decide) (by decide) (by decide) (by decide) ?_
  refine ev_b bX7_count_63_64 (lv' := [(0, .ref 0), (1, .int (nI (3)))]) (st' := [.ref 0]) (w2 := modW 0 S X K) rfl ?_
  refine ev_callM (Yc := mX7_findHarm) (st := []) dX7_count_64 tw_1224 kX7_findHarm (m_X7_findHarm S X K hS hM) rfl rfl rfl rfl (by decide) (Nat.le_of_ble_eq_true rfl) (Nat.le_refl _) (Nat.le_refl _) (fun r w' h => by obtain ⟨-, wo, ta, rfl, -⟩ := h; exact mod_eq) ?_
  rintro _ _ ⟨rfl, wo, ta, rfl, hT⟩
  refine ev_eq (lv' := [(0, .ref 0), (1, .int (nI (3)))]) (st' := []) (w' := modW 0 S ((X.rf, wo, ta, (owF S), 0, X.sh, X.lt, X.ty, X.pl, X.nu, X.od, X.tt, X.oo, X.on, (wonZ S), (paidZ S), X.li, X.rr, X.rn, X.dr) : ModN) K) rfl rfl rfl ?_
  refine ev_b bX7_count_67_71 (lv' := [(3, .int (nI (0))), (2, .int (nI (0))), (0, .ref 0), (1, .int (nI (3)))]) (st' := []) (w2 := modW 0 S ((X.rf, wo, ta, (owF S), 0, X.sh, X.lt, X.ty, X.pl, X.nu, X.od, X.tt, X.oo, X.on, (wonZ S), (paidZ S), X.li, X.rr, X.rn, X.dr) : ModN) K) rfl ?_
  have L71 : ∀ (j_ k : Nat), k + j_ = 5 → Ev l E mX7_count (7) 0 0 (modW 0 S X K) (MP S K (X.lt) (X.ty) (X.rr) (X.rn) (X.rf) (some (.int (nI (hapTo (wonZ S) 5))))) 0 0 71 [(3, .int (nI (k))), (2, .int (nI (hapTo (wonZ S) k))), (0, .ref 0), (1, .int (nI (3)))] [] (modW 0 S ((X.rf, wo, ta, (owF S), 0, X.sh, X.lt, X.ty, X.pl, X.nu, X.od, X.tt, X.oo, X.on, (wonZ S), (paidZ S), X.li, X.rr, X.rn, X.dr) : ModN) K) := by
    intro j_
    induction j_ with
    | zero =>
      intro k hk71  
      replace hk71 : k = 5 := hk71
      subst hk71
      refine ev_b bX7_count_71_73 (lv' := [(3, .int (nI (5))), (2, .int (nI (hapTo (wonZ S) 5))), (0, .ref 0), (1, .int (nI (3)))]) (st' := [.int (nI (5)), .int (nI (5))]) (w2 := modW 0 S ((X.rf, wo, ta, (owF S), 0, X.sh, X.lt, X.ty, X.pl, X.nu, X.od, X.tt, X.oo, X.on, (wonZ S), (paidZ S), X.li, X.rr, X.rn, X.dr) : ModN) K) rfl ?_
      refine ev_icmp_ge_n (tgt := 101) (by decide) (by decide) dX7_count_73 (by decide) (fun h73 => ?_) (fun h73 => (by exfalso; omega))
      refine ev_b bX7_count_101_102 (lv' := [(3, .int (nI (5))), (2, .int (nI (hapTo (wonZ S) 5))), (0, .ref 0), (1, .int (nI (3)))]) (st' := [.int (nI (hapTo (wonZ S) 5))]) (w2 := modW 0 S ((X.rf, wo, ta, (owF S), 0, X.sh, X.lt, X.ty, X.pl, X.nu, X.od, X.tt, X.oo, X.on, (wonZ S), (paidZ S), X.li, X.rr, X.rn, X.dr) : ModN) K) rfl ?_
      exact ev_iret dX7_count_102 rfl mod_le (Nat.le_refl _) (Nat.le_refl _) ⟨rfl, _, rfl, mok_fresh hM.1 rfl hT, rfl, rfl, rfl, rfl, rfl⟩
    | succ j_ ih71 =>
      intro k hk71  
      have hlt71 : k < 5 := by omega
      have hbk := wonZ_bnd hS k
      refine ev_b bX7_count_71_73 (lv' := [(3, .int (nI (k))), (2, .int (nI (hapTo (wonZ S) k))), (0, .ref 0), (1, .int (nI (3)))]) (st' := [.int (nI (5)), .int (nI (k))]) (w2 := modW 0 S ((X.rf, wo, ta, (owF S), 0, X.sh, X.lt, X.ty, X.pl, X.nu, X.od, X.tt, X.oo, X.on, (wonZ S), (paidZ S), X.li, X.rr, X.rn, X.dr) : ModN) K) rfl ?_
      refine ev_icmp_ge_n (tgt := 101) (by omega) (by decide) dX7_count_73 (by decide) (fun h73 => (by exfalso; omega)) (fun h73 => ?_)
      refine ev_b bX7_count_76_82 (lv' := [(3, .int (nI (k))), (2, .int (nI (hapTo (wonZ S) k))), (0, .ref 0), (1, .int (nI (3)))]) (st' := [.int (nI (k)), .ref 16, .int (nI (hapTo (wonZ S) k))]) (w2 := modW 0 S ((X.rf, wo, ta, (owF S), 0, X.sh, X.lt, X.ty, X.pl, X.nu, X.od, X.tt, X.oo, X.on, (wonZ S), (paidZ S), X.li, X.rr, X.rn, X.dr) : ModN) K) rfl ?_
      refine ev_iald_z (f := (wonZ S)) dX7_count_82 rfl (by omega) (by decide) ?_
      refine ev_if_le_z (tgt := 92) (by constructor <;> omega) dX7_count_83 (by decide) (fun h83 => ?_) (fun h83 => ?_)
      · skip
        refine ev_b bX7_count_92_93 (lv' := [(3, .int (nI (k))), (2, .int (nI (hapTo (wonZ S) k))), (0, .ref 0), (1, .int (nI (3)))]) (st' := [.int (nI (0)), .int (nI (hapTo (wonZ S) k))]) (w2 := modW 0 S ((X.rf, wo, ta, (owF S), 0, X.sh, X.lt, X.ty, X.pl, X.nu, X.od, X.tt, X.oo, X.on, (wonZ S), (paidZ S), X.li, X.rr, X.rn, X.dr) : ModN) K) rfl ?_
        refine ev_ior_n dX7_count_93 ?_
        refine ev_b bX7_count_94_95 (lv' := [(2, .int (nI ((hapTo (wonZ S) k) ||| 0))), (3, .int (nI (k))), (0, .ref 0), (1, .int (nI (3)))]) (st' := []) (w2 := modW 0 S ((X.rf, wo, ta, (owF S), 0, X.sh, X.lt, X.ty, X.pl, X.nu, X.od, X.tt, X.oo, X.on, (wonZ S), (paidZ S), X.li, X.rr, X.rn, X.dr) : ModN) K) rfl ?_
        refine ev_iinc_n (x := k) (v := 1) dX7_count_95 rfl (by decide) ?_
        refine ev_eq (lv' := [(3, .int (nI (k + 1))), (2, .int (nI ((hapTo (wonZ S) k) ||| 0))), (0, .ref 0), (1, .int (nI (3)))]) rfl rfl rfl ?_
        refine ev_b bX7_count_98_71 (lv' := [(3, .int (nI (k + 1))), (2, .int (nI ((hapTo (wonZ S) k) ||| 0))), (0, .ref 0), (1, .int (nI (3)))]) (st' := []) (w2 := modW 0 S ((X.rf, wo, ta, (owF S), 0, X.sh, X.lt, X.ty, X.pl, X.nu, X.od, X.tt, X.oo, X.on, (wonZ S), (paidZ S), X.li, X.rr, X.rn, X.dr) : ModN) K) rfl ?_
        rw [show nI (k + 1) = nI ((k + 1)) from congrArg nI (by omega)]
        rw [show nI ((hapTo (wonZ S) k) ||| 0) = nI (hapTo (wonZ S) (k + 1)) from congrArg nI (by rw [hapTo_s]; first | rw [if_neg (Int.not_lt.mpr h83), Nat.or_zero] | rw [if_pos (Int.not_le.mp h83)])]
        exact ih71 (k + 1) (by omega) 
      · skip
        refine ev_b bX7_count_86_88 (lv' := [(3, .int (nI (k))), (2, .int (nI (hapTo (wonZ S) k))), (0, .ref 0), (1, .int (nI (3)))]) (st' := [.int (nI (k)), .int (nI (1)), .int (nI (hapTo (wonZ S) k))]) (w2 := modW 0 S ((X.rf, wo, ta, (owF S), 0, X.sh, X.lt, X.ty, X.pl, X.nu, X.od, X.tt, X.oo, X.on, (wonZ S), (paidZ S), X.li, X.rr, X.rn, X.dr) : ModN) K) rfl ?_
        refine ev_ishl_n (by omega) dX7_count_88 ?_
        refine ev_b bX7_count_89_93 (lv' := [(3, .int (nI (k))), (2, .int (nI (hapTo (wonZ S) k))), (0, .ref 0), (1, .int (nI (3)))]) (st' := [.int (nI (1 <<< k)), .int (nI (hapTo (wonZ S) k))]) (w2 := modW 0 S ((X.rf, wo, ta, (owF S), 0, X.sh, X.lt, X.ty, X.pl, X.nu, X.od, X.tt, X.oo, X.on, (wonZ S), (paidZ S), X.li, X.rr, X.rn, X.dr) : ModN) K) rfl ?_
        refine ev_ior_n dX7_count_93 ?_
        refine ev_b bX7_count_94_95 (lv' := [(2, .int (nI ((hapTo (wonZ S) k) ||| (1 <<< k)))), (3, .int (nI (k))), (0, .ref 0), (1, .int (nI (3)))]) (st' := []) (w2 := modW 0 S ((X.rf, wo, ta, (owF S), 0, X.sh, X.lt, X.ty, X.pl, X.nu, X.od, X.tt, X.oo, X.on, (wonZ S), (paidZ S), X.li, X.rr, X.rn, X.dr) : ModN) K) rfl ?_
        refine ev_iinc_n (x := k) (v := 1) dX7_count_95 rfl (by decide) ?_
        refine ev_eq (lv' := [(3, .int (nI (k + 1))), (2, .int (nI ((hapTo (wonZ S) k) ||| (1 <<< k)))), (0, .ref 0), (1, .int (nI (3)))]) rfl rfl rfl ?_
        refine ev_b bX7_count_98_71 (lv' := [(3, .int (nI (k + 1))), (2, .int (nI ((hapTo (wonZ S) k) ||| (1 <<< k)))), (0, .ref 0), (1, .int (nI (3)))]) (st' := []) (w2 := modW 0 S ((X.rf, wo, ta, (owF S), 0, X.sh, X.lt, X.ty, X.pl, X.nu, X.od, X.tt, X.oo, X.on, (wonZ S), (paidZ S), X.li, X.rr, X.rn, X.dr) : ModN) K) rfl ?_
        rw [show nI (k + 1) = nI ((k + 1)) from congrArg nI (by omega)]
        rw [show nI ((hapTo (wonZ S) k) ||| (1 <<< k)) = nI (hapTo (wonZ S) (k + 1)) from congrArg nI (by rw [hapTo_s]; first | rw [if_neg (Int.not_lt.mpr h83), Nat.or_zero] | rw [if_pos (Int.not_le.mp h83)])]
        exact ih71 (k + 1) (by omega) 
  exact L71 5 0 (by omega) 
theorem bX7_count_103_108 {l : Launch} {E : XE} : Snd l E mX7_count 103 108 (xs [x_aload 0, x_aload 0, x_get 8 7]) := Snd.cons (snd_aload_n (i := 0) dX7_count_103 rfl) (Snd.cons (snd_aload_n (i := 0) dX7_count_104 rfl) (Snd.cons (snd_get (ci := 8) (k := 7) dX7_count_105 rfl inX7 (by decide) tw_921) Snd.nil))
set_option maxHeartbeats 4000000 in
set_option maxRecDepth 100000 in
theorem q_count_w4 {l : Launch} {E : XE} (S : SaleN) (X : ModN) (K : Option (Nat → Nat))  (hS : SaleOK S) (hM : MOK S X)  : MetE l E mX7_count (2) 0 0 [.ref 0, .int (nI (4))] (modW 0 S X K) (MP S K (X.lt) (X.ty) (X.rr) (X.rn) (X.rf) (some (.int (nI (prTo S.pr S.ac S.ca))))) := by
  refine MetE.of (by decide +kernel) (Nat.le_of_ble_eq_true rfl) ?_
  have hca := hS.1
  have hpw := pow_ca hS
  have hac := ac_lt hS
  have hshl := shl_le hS
  
  refine ev_eq (lv' := [(0, .ref 0), (1, .int (nI (4)))]) (st' := []) (w' := modW 0 S X K) rfl rfl rfl ?_
  refine ev_b bX7_count_0_1 (lv' := [(0, .ref 0), (1, .int (nI (4)))]) (st' := [.int (nI (4))]) (w2 := modW 0 S X K) rfl ?_
  refine ev_tableIn (off := 102) (tgt := 103) dX7_count_1 (by decide) (by decide) (by decide) (by decide) ?_
  refine ev_b bX7_count_103_108 (lv' := [(0, .ref 0), (1, .int (nI (4)))]) (st' := [.int (nI (S.ac)), .ref 0]) (w2 := modW 0 S X K) rfl ?_
  refine ev_callM (Yc := mX7_pricesOf) (st := []) dX7_count_108 tw_1159 kX7_pricesOf (m_X7_pricesOf S S.kd S.fg X K S.ac hS hac) rfl rfl rfl rfl (by decide) (Nat.le_of_ble_eq_true rfl) (Nat.le_refl _) (Nat.le_refl _) (fun r w' h => by obtain ⟨-, rfl⟩ := h; exact mod_eq) ?_
  rintro _ _ ⟨rfl, rfl⟩
  refine ev_eq (lv' := [(0, .ref 0), (1, .int (nI (4)))]) (st' := [.int (nI (prTo S.pr S.ac S.ca))]) (w' := modW 0 S X K) rfl rfl rfl ?_
  exact ev_iret dX7_count_111 rfl mod_le (Nat.le_refl _) (Nat.le_refl _) ⟨rfl, _, rfl, hM, rfl, rfl, rfl, rfl, rfl⟩
theorem bX7_count_112_116 {l : Launch} {E : XE} : Snd l E mX7_count 112 116 (xs [x_aload 0, x_get 8 28]) := Snd.cons (snd_aload_n (i := 0) dX7_count_112 rfl) (Snd.cons (snd_get (ci := 8) (k := 28) dX7_count_113 rfl inX7 (by decide) tw_942) Snd.nil)
set_option maxHeartbeats 4000000 in
set_option maxRecDepth 100000 in
theorem q_count_w5 {l : Launch} {E : XE} (S : SaleN) (X : ModN) (K : Option (Nat → Nat))  (hS : SaleOK S) (hM : MOK S X)  : MetE l E mX7_count (0) 0 0 [.ref 0, .int (nI (5))] (modW 0 S X K) (MP S K (X.lt) (X.ty) (X.rr) (X.rn) (X.rf) (some (.int (nI (X.rn))))) := by
  refine MetE.of (by decide +kernel) (Nat.le_of_ble_eq_true rfl) ?_
  have hca := hS.1
  have hpw := pow_ca hS
  have hac := ac_lt hS
  have hshl := shl_le hS
  
  refine ev_eq (lv' := [(0, .ref 0), (1, .int (nI (5)))]) (st' := []) (w' := modW 0 S X K) rfl rfl rfl ?_
  refine ev_b bX7_count_0_1 (lv' := [(0, .ref 0), (1, .int (nI (5)))]) (st' := [.int (nI (5))]) (w2 := modW 0 S X K) rfl ?_
  refine ev_tableIn (off := 111) (tgt := 112) dX7_count_1 (by decide) (by decide) (by decide) (by decide) ?_
  refine ev_b bX7_count_112_116 (lv' := [(0, .ref 0), (1, .int (nI (5)))]) (st' := [.int (nI (X.rn))]) (w2 := modW 0 S X K) rfl ?_
  exact ev_iret dX7_count_116 rfl mod_le (Nat.le_refl _) (Nat.le_refl _) ⟨rfl, _, rfl, hM, rfl, rfl, rfl, rfl, rfl⟩
theorem bX7_count_117_121 {l : Launch} {E : XE} : Snd l E mX7_count 117 121 (xs [x_aload 0, x_get 8 15]) := Snd.cons (snd_aload_n (i := 0) dX7_count_117 rfl) (Snd.cons (snd_get (ci := 8) (k := 15) dX7_count_118 rfl inX7 (by decide) tw_929) Snd.nil)
set_option maxHeartbeats 4000000 in
set_option maxRecDepth 100000 in
theorem q_count_w6 {l : Launch} {E : XE} (S : SaleN) (X : ModN) (K : Option (Nat → Nat))  (hS : SaleOK S) (hM : MOK S X)  : MetE l E mX7_count (0) 0 0 [.ref 0, .int (nI (6))] (modW 0 S X K) (MP S K (X.lt) (X.ty) (X.rr) (X.rn) (X.rf) (some (.int (nI (X.ty))))) := by
  refine MetE.of (by decide +kernel) (Nat.le_of_ble_eq_true rfl) ?_
  have hca := hS.1
  have hpw := pow_ca hS
  have hac := ac_lt hS
  have hshl := shl_le hS
  
  refine ev_eq (lv' := [(0, .ref 0), (1, .int (nI (6)))]) (st' := []) (w' := modW 0 S X K) rfl rfl rfl ?_
  refine ev_b bX7_count_0_1 (lv' := [(0, .ref 0), (1, .int (nI (6)))]) (st' := [.int (nI (6))]) (w2 := modW 0 S X K) rfl ?_
  refine ev_tableIn (off := 116) (tgt := 117) dX7_count_1 (by decide) (by decide) (by decide) (by decide) ?_
  refine ev_b bX7_count_117_121 (lv' := [(0, .ref 0), (1, .int (nI (6)))]) (st' := [.int (nI (X.ty))]) (w2 := modW 0 S X K) rfl ?_
  exact ev_iret dX7_count_121 rfl mod_le (Nat.le_refl _) (Nat.le_refl _) ⟨rfl, _, rfl, hM, rfl, rfl, rfl, rfl, rfl⟩
