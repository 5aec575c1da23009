theorem bX7_blocker_0_7 {l : Launch} {E : XE} : Snd l E mX7_blocker 0 7 (xs [x_push (.int (-9)), x_istore 1, x_push (.int (nI 0)), x_istore 2, x_push (.int (nI 0)), x_istore 3]) := Snd.cons (snd_bipush (v := -9) dX7_blocker_0 (by decide)) (Snd.cons (snd_istore_n (i := 1) dX7_blocker_2 rfl (by decide)) (Snd.cons (snd_iconst (v := nI 0) dX7_blocker_3 (by decide)) (Snd.cons (snd_istore_n (i := 2) dX7_blocker_4 rfl (by decide)) (Snd.cons (snd_iconst (v := nI 0) dX7_blocker_5 (by decide)) (Snd.cons (snd_istore_n (i := 3) dX7_blocker_6 rfl (by decide)) Snd.nil)))))
theorem bX7_blocker_7_10 {l : Launch} {E : XE} : Snd l E mX7_blocker 7 10 (xs [x_iload 3, x_push (.int (nI 32))]) := Snd.cons (snd_iload_n (i := 3) dX7_blocker_7 rfl) (Snd.cons (snd_bipush (v := nI 32) dX7_blocker_8 (by decide)) Snd.nil)
theorem bX7_blocker_40_41 {l : Launch} {E : XE} : Snd l E mX7_blocker 40 41 (xs [x_iload 1]) := Snd.cons (snd_iload_n (i := 1) dX7_blocker_40 rfl) Snd.nil
theorem bX7_blocker_13_15 {l : Launch} {E : XE} : Snd l E mX7_blocker 13 15 (xs [x_aload 0, x_iload 3]) := Snd.cons (snd_aload_n (i := 0) dX7_blocker_13 rfl) (Snd.cons (snd_iload_n (i := 3) dX7_blocker_14 rfl) Snd.nil)
theorem bX7_blocker_18_23 {l : Launch} {E : XE} : Snd l E mX7_blocker 18 23 (xs [x_istore 4, x_iload 4, x_iload 2]) := Snd.cons (snd_istore dX7_blocker_18 (by decide)) (Snd.cons (snd_iload dX7_blocker_20) (Snd.cons (snd_iload_n (i := 2) dX7_blocker_22 rfl) Snd.nil))
theorem bX7_blocker_29_34 {l : Launch} {E : XE} : Snd l E mX7_blocker 29 34 (xs [x_iload 4, x_istore 2, x_iload 3, x_istore 1]) := Snd.cons (snd_iload dX7_blocker_29) (Snd.cons (snd_istore_n (i := 2) dX7_blocker_31 rfl (by decide)) (Snd.cons (snd_iload_n (i := 3) dX7_blocker_32 rfl) (Snd.cons (snd_istore_n (i := 1) dX7_blocker_33 rfl (by decide)) Snd.nil)))
theorem bX7_blocker_37_7 {l : Launch} {E : XE} : Snd l E mX7_blocker 37 7 (xs [x_id]) := Snd.cons (snd_goto (tgt := 7) dX7_blocker_37 (by decide)) Snd.nil
theorem bX7_blocker_26_34 {l : Launch} {E : XE} : Snd l E mX7_blocker 26 34 (xs [x_id]) := Snd.cons (snd_goto (tgt := 34) dX7_blocker_26 (by decide)) Snd.nil
set_option maxHeartbeats 4000000 in
set_option maxRecDepth 100000 in
theorem m_X7_blocker {l : Launch} {E : XE} (S : SaleN) (X : ModN) (K : Option (Nat → Nat)) (hS : SaleOK S) (h0 : X.sl = 0) (hT : TabF S X.wo X.ta) (hw : X.wn = wonZ S) (hb : BndZ X.pd) : MetE l E mX7_blocker (5) 0 0 [.ref 0] (modW 0 S X K) (fun r w' => r = some (.int (zI ((blkS S X.pd).2))) ∧ w' = modW 0 S ((X.rf, X.wo, X.ta, (owF S), X.sl, X.sh, X.lt, X.ty, X.pl, X.nu, X.od, X.tt, X.oo, X.on, X.wn, X.pd, X.li, X.rr, X.rn, X.dr) : ModN) K) := by
  refine MetE.of (by decide +kernel) (Nat.le_of_ble_eq_true rfl) ?_
  have hB := lb_ok hS hb
  refine ev_eq (lv' := [(0, .ref 0)]) (st' := []) (w' := modW 0 S X K) rfl rfl rfl ?_
  refine ev_b bX7_blocker_0_7 (lv' := [(3, .int (nI (0))), (2, .int (nI (0))), (1, .int (-9)), (0, .ref 0)]) (st' := []) (w2 := modW 0 S X K) rfl ?_
  have L7 : ∀ (j_ k : Nat), k + j_ = 32 → ∀ (o : Nat → Nat), (0 < k → o = owF S) → Ev l E mX7_blocker (5) 0 0 (modW 0 S X K) (fun r w' => r = some (.int (zI ((blkS S X.pd).2))) ∧ w' = modW 0 S ((X.rf, X.wo, X.ta, (owF S), X.sl, X.sh, X.lt, X.ty, X.pl, X.nu, X.od, X.tt, X.oo, X.on, X.wn, X.pd, X.li, X.rr, X.rn, X.dr) : ModN) K) 0 0 7 [(3, .int (nI (k))), (2, .int (zI ((blkTo (LB S) X.pd k).1))), (1, .int (zI ((blkTo (LB S) X.pd k).2))), (0, .ref 0)] [] (modW 0 S ((X.rf, X.wo, X.ta, o, X.sl, X.sh, X.lt, X.ty, X.pl, X.nu, X.od, X.tt, X.oo, X.on, X.wn, X.pd, X.li, X.rr, X.rn, X.dr) : ModN) K) := by
    intro j_
    induction j_ with
    | zero =>
      intro k hk7 o hinv7
      replace hk7 : k = 32 := hk7
      subst hk7
      have hbk := blkTo_bnd hB 32 (by omega)
      refine ev_b bX7_blocker_7_10 (lv' := [(3, .int (nI (32))), (2, .int (zI ((blkTo (LB S) X.pd 32).1))), (1, .int (zI ((blkTo (LB S) X.pd 32).2))), (0, .ref 0)]) (st' := [.int (nI (32)), .int (nI (32))]) (w2 := modW 0 S ((X.rf, X.wo, X.ta, o, X.sl, X.sh, X.lt, X.ty, X.pl, X.nu, X.od, X.tt, X.oo, X.on, X.wn, X.pd, X.li, X.rr, X.rn, X.dr) : ModN) K) rfl ?_
      refine ev_icmp_ge_n (tgt := 40) (by decide) (by decide) dX7_blocker_10 (by decide) (fun h10 => ?_) (fun h10 => (by exfalso; omega))
      refine ev_b bX7_blocker_40_41 (lv' := [(3, .int (nI (32))), (2, .int (zI ((blkTo (LB S) X.pd 32).1))), (1, .int (zI ((blkTo (LB S) X.pd 32).2))), (0, .ref 0)]) (st' := [.int (zI ((blkTo (LB S) X.pd 32).2))]) (w2 := modW 0 S ((X.rf, X.wo, X.ta, o, X.sl, X.sh, X.lt, X.ty, X.pl, X.nu, X.od, X.tt, X.oo, X.on, X.wn, X.pd, X.li, X.rr, X.rn, X.dr) : ModN) K) rfl ?_
      exact ev_iret dX7_blocker_41 rfl mod_le (Nat.le_refl _) (Nat.le_refl _) ⟨(congrArg (fun t => some (Value.int (zI t))) (show (blkTo (LB S) X.pd 32).2 = (blkS S X.pd).2 from by exact rfl)), (by rw [hinv7 (by decide)])⟩
    | succ j_ ih7 =>
      intro k hk7 o hinv7
      have hlt7 : k < 32 := by omega
      have hex : -3000000 ≤ excS S X.pd k ∧ excS S X.pd k ≤ 3000000 := excZ_bnd hB hlt7
      have hbk := blkTo_bnd hB k (by omega)
      refine ev_b bX7_blocker_7_10 (lv' := [(3, .int (nI (k))), (2, .int (zI ((blkTo (LB S) X.pd k).1))), (1, .int (zI ((blkTo (LB S) X.pd k).2))), (0, .ref 0)]) (st' := [.int (nI (32)), .int (nI (k))]) (w2 := modW 0 S ((X.rf, X.wo, X.ta, o, X.sl, X.sh, X.lt, X.ty, X.pl, X.nu, X.od, X.tt, X.oo, X.on, X.wn, X.pd, X.li, X.rr, X.rn, X.dr) : ModN) K) rfl ?_
      refine ev_icmp_ge_n (tgt := 40) (by omega) (by decide) dX7_blocker_10 (by decide) (fun h10 => (by exfalso; omega)) (fun h10 => ?_)
      refine ev_b bX7_blocker_13_15 (lv' := [(3, .int (nI (k))), (2, .int (zI ((blkTo (LB S) X.pd k).1))), (1, .int (zI ((blkTo (LB S) X.pd k).2))), (0, .ref 0)]) (st' := [.int (nI (k)), .ref 0]) (w2 := modW 0 S ((X.rf, X.wo, X.ta, o, X.sl, X.sh, X.lt, X.ty, X.pl, X.nu, X.od, X.tt, X.oo, X.on, X.wn, X.pd, X.li, X.rr, X.rn, X.dr) : ModN) K) rfl ?_
      refine ev_callM (Yc := mX7_blocksBy) (st := []) dX7_blocker_15 tw_1232 kX7_blocksBy (m_X7_blocksBy S ((X.rf, X.wo, X.ta, o, X.sl, X.sh, X.lt, X.ty, X.pl, X.nu, X.od, X.tt, X.oo, X.on, X.wn, X.pd, X.li, X.rr, X.rn, X.dr) : ModN) K k hS hlt7 h0 hT hw) rfl rfl rfl rfl (by decide) (Nat.le_of_ble_eq_true rfl) (Nat.le_refl _) (Nat.le_refl _) (fun r w' h => by obtain ⟨-, rfl⟩ := h; exact mod_eq) ?_
      rintro _ _ ⟨rfl, rfl⟩
      refine ev_eq (lv' := [(3, .int (nI (k))), (2, .int (zI ((blkTo (LB S) X.pd k).1))), (1, .int (zI ((blkTo (LB S) X.pd k).2))), (0, .ref 0)]) (st' := [.int (zI (excS S X.pd k))]) (w' := modW 0 S ((X.rf, X.wo, X.ta, (owF S), X.sl, X.sh, X.lt, X.ty, X.pl, X.nu, X.od, X.tt, X.oo, X.on, X.wn, X.pd, X.li, X.rr, X.rn, X.dr) : ModN) K) rfl rfl rfl ?_
      refine ev_b bX7_blocker_18_23 (lv' := [(4, .int (zI (excS S X.pd k))), (3, .int (nI (k))), (2, .int (zI ((blkTo (LB S) X.pd k).1))), (1, .int (zI ((blkTo (LB S) X.pd k).2))), (0, .ref 0)]) (st' := [.int (zI ((blkTo (LB S) X.pd k).1)), .int (zI (excS S X.pd k))]) (w2 := modW 0 S ((X.rf, X.wo, X.ta, (owF S), X.sl, X.sh, X.lt, X.ty, X.pl, X.nu, X.od, X.tt, X.oo, X.on, X.wn, X.pd, X.li, X.rr, X.rn, X.dr) : ModN) K) rfl ?_
      refine ev_icmp_gt_z (tgt := 29) (by constructor <;> omega) (by constructor <;> omega) dX7_blocker_23 (by decide) (fun h23 => ?_) (fun h23 => ?_)
      · skip
        refine ev_b bX7_blocker_29_34 (lv' := [(1, .int (nI (k))), (2, .int (zI (excS S X.pd k))), (4, .int (zI (excS S X.pd k))), (3, .int (nI (k))), (0, .ref 0)]) (st' := []) (w2 := modW 0 S ((X.rf, X.wo, X.ta, (owF S), X.sl, X.sh, X.lt, X.ty, X.pl, X.nu, X.od, X.tt, X.oo, X.on, X.wn, X.pd, X.li, X.rr, X.rn, X.dr) : ModN) K) rfl ?_
        refine ev_iinc_n (x := k) (v := 1) dX7_blocker_34 rfl (by decide) ?_
        refine ev_eq (lv' := [(3, .int (nI (k + 1))), (1, .int (nI (k))), (2, .int (zI (excS S X.pd k))), (4, .int (zI (excS S X.pd k))), (0, .ref 0)]) rfl rfl rfl ?_
        refine ev_b bX7_blocker_37_7 (lv' := [(3, .int (nI (k + 1))), (1, .int (nI (k))), (2, .int (zI (excS S X.pd k))), (4, .int (zI (excS S X.pd k))), (0, .ref 0)]) (st' := []) (w2 := modW 0 S ((X.rf, X.wo, X.ta, (owF S), X.sl, X.sh, X.lt, X.ty, X.pl, X.nu, X.od, X.tt, X.oo, X.on, X.wn, X.pd, X.li, X.rr, X.rn, X.dr) : ModN) K) rfl ?_
        refine ev_pick (lv' := [(3, .int (nI (k + 1))), (2, .int (zI (excS S X.pd k))), (1, .int (nI (k))), (0, .ref 0)]) rfl ?_
        rw [show nI (k + 1) = nI ((k + 1)) from congrArg nI (by omega)]
        rw [show zI (excS S X.pd k) = zI ((blkTo (LB S) X.pd (k + 1)).1) from congrArg zI (by first | rw [bk_t h23] | rw [bk_f h23] | rw [bk_f (Int.not_lt.mpr h23)])]
        rw [show nI (k) = zI ((blkTo (LB S) X.pd (k + 1)).2) from by rw [← zI_nat]; exact congrArg zI (by first | rw [bk_t h23] | rw [bk_f h23] | rw [bk_f (Int.not_lt.mpr h23)])]
        exact ih7 (k + 1) (by omega) (owF S) (fun _ => rfl)
      · skip
        refine ev_b bX7_blocker_26_34 (lv' := [(4, .int (zI (excS S X.pd k))), (3, .int (nI (k))), (2, .int (zI ((blkTo (LB S) X.pd k).1))), (1, .int (zI ((blkTo (LB S) X.pd k).2))), (0, .ref 0)]) (st' := []) (w2 := modW 0 S ((X.rf, X.wo, X.ta, (owF S), X.sl, X.sh, X.lt, X.ty, X.pl, X.nu, X.od, X.tt, X.oo, X.on, X.wn, X.pd, X.li, X.rr, X.rn, X.dr) : ModN) K) rfl ?_
        refine ev_iinc_n (x := k) (v := 1) dX7_blocker_34 rfl (by decide) ?_
        refine ev_eq (lv' := [(3, .int (nI (k + 1))), (4, .int (zI (excS S X.pd k))), (2, .int (zI ((blkTo (LB S) X.pd k).1))), (1, .int (zI ((blkTo (LB S) X.pd k).2))), (0, .ref 0)]) rfl rfl rfl ?_
        refine ev_b bX7_blocker_37_7 (lv' := [(3, .int (nI (k + 1))), (4, .int (zI (excS S X.pd k))), (2, .int (zI ((blkTo (LB S) X.pd k).1))), (1, .int (zI ((blkTo (LB S) X.pd k).2))), (0, .ref 0)]) (st' := []) (w2 := modW 0 S ((X.rf, X.wo, X.ta, (owF S), X.sl, X.sh, X.lt, X.ty, X.pl, X.nu, X.od, X.tt, X.oo, X.on, X.wn, X.pd, X.li, X.rr, X.rn, X.dr) : ModN) K) rfl ?_
        refine ev_pick (lv' := [(3, .int (nI (k + 1))), (2, .int (zI ((blkTo (LB S) X.pd k).1))), (1, .int (zI ((blkTo (LB S) X.pd k).2))), (0, .ref 0)]) rfl ?_
        rw [show nI (k + 1) = nI ((k + 1)) from congrArg nI (by omega)]
        rw [show zI ((blkTo (LB S) X.pd k).1) = zI ((blkTo (LB S) X.pd (k + 1)).1) from congrArg zI (by first | rw [bk_t h23] | rw [bk_f h23] | rw [bk_f (Int.not_lt.mpr h23)])]
        rw [show zI ((blkTo (LB S) X.pd k).2) = zI ((blkTo (LB S) X.pd (k + 1)).2) from congrArg zI (by first | rw [bk_t h23] | rw [bk_f h23] | rw [bk_f (Int.not_lt.mpr h23)])]
        exact ih7 (k + 1) (by omega) (owF S) (fun _ => rfl)
  rw [show nI (0) = zI ((blkTo (LB S) X.pd 0).1) from by rw [← zI_nat]; exact congrArg zI (by exact rfl)]
  rw [show (.int (-9) : Value) = .int (zI ((blkTo (LB S) X.pd 0).2)) from by exact congrArg Value.int (show (-9 : Int32) = zI (-9) from by decide)]
  exact L7 32 0 (by omega) X.ow (fun z => absurd z (Nat.lt_irrefl 0))
