theorem hw_Bill0_Sale5_Out13__0 {x0 : BillN} {x1 : SaleN} {x2 : OutN} : ([0, 1, 2, 3, 4] : List Nat).map (fun i => (billW 0 x0 ++ saleW 5 x1 ++ outW 13 x2)[i]?) = (billW 0 x0).map (fun e => some (xr ([0, 1, 2, 3, 4] : List Nat) (billW 0 x0 ++ saleW 5 x1 ++ outW 13 x2).length e)) := rfl
theorem xp_Bill0_Sale5_Out13__0 {x0 : BillN} {x1 : SaleN} {x2 : OutN} {y0 : BillN} : xput ([0, 1, 2, 3, 4] : List Nat) (billW 0 x0 ++ saleW 5 x1 ++ outW 13 x2).length (billW 0 x0 ++ saleW 5 x1 ++ outW 13 x2) ([0, 1, 2, 3, 4] : List Nat) (billW 0 y0) = billW 0 y0 ++ saleW 5 x1 ++ outW 13 x2 := by
  have e0 : xput ([0, 1, 2, 3, 4] : List Nat) (billW 0 x0 ++ saleW 5 x1 ++ outW 13 x2).length (billW 0 x0 ++ saleW 5 x1 ++ outW 13 x2) ([0, 1, 2, 3, 4] : List Nat) (billW 0 y0) = billW 0 y0 ++ saleW 5 x1 ++ outW 13 x2 := xput_blk ([]) (billW 0 x0) (saleW 5 x1 ++ (outW 13 x2)) (billW 0 y0) rfl
  exact e0
theorem bX0_lift_0_7 {l : Launch} {E : XE} : Snd l E mX0_lift 0 7 (xs [x_aload 0, x_aload 1, x_aload 1, x_aload 0, x_get 1 4]) := Snd.cons (snd_aload_n (i := 0) dX0_lift_0 rfl) (Snd.cons (snd_aload_n (i := 1) dX0_lift_1 rfl) (Snd.cons (snd_aload_n (i := 1) dX0_lift_2 rfl) (Snd.cons (snd_aload_n (i := 0) dX0_lift_3 rfl) (Snd.cons (snd_get (ci := 1) (k := 4) dX0_lift_4 rfl inX0 (by decide) tw_108) Snd.nil))))
theorem bX0_lift_13_18 {l : Launch} {E : XE} : Snd l E mX0_lift 13 18 (xs [x_puti 1 6, x_push (.int (nI 0)), x_istore 3]) := Snd.cons (snd_puti (ci := 1) (k := 6) dX0_lift_13 rfl inX0 tyX0_ok nmX0 (by decide) tw_112 rfl rfl) (Snd.cons (snd_iconst (v := nI 0) dX0_lift_16 (by decide)) (Snd.cons (snd_istore_n (i := 3) dX0_lift_17 rfl (by decide)) Snd.nil))
theorem bX0_lift_18_21 {l : Launch} {E : XE} : Snd l E mX0_lift 18 21 (xs [x_iload 3, x_push (.int (nI 32))]) := Snd.cons (snd_iload_n (i := 3) dX0_lift_18 rfl) (Snd.cons (snd_bipush (v := nI 32) dX0_lift_19 (by decide)) Snd.nil)
theorem bX0_lift_48_59 {l : Launch} {E : XE} : Snd l E mX0_lift 48 59 (xs [x_aload 0, x_get 1 1, x_push (.int (nI 0)), x_aload 0, x_get 1 2, x_push (.int (nI 0)), x_push (.int (nI 5))]) := Snd.cons (snd_aload_n (i := 0) dX0_lift_48 rfl) (Snd.cons (snd_get (ci := 1) (k := 1) dX0_lift_49 rfl inX0 (by decide) tw_104) (Snd.cons (snd_iconst (v := nI 0) dX0_lift_52 (by decide)) (Snd.cons (snd_aload_n (i := 0) dX0_lift_53 rfl) (Snd.cons (snd_get (ci := 1) (k := 2) dX0_lift_54 rfl inX0 (by decide) tw_106) (Snd.cons (snd_iconst (v := nI 0) dX0_lift_57 (by decide)) (Snd.cons (snd_iconst (v := nI 5) dX0_lift_58 (by decide)) Snd.nil))))))
theorem bX0_lift_62_67 {l : Launch} {E : XE} : Snd l E mX0_lift 62 67 (xs [x_aload 0, x_push (.int (nI 0)), x_puti 1 7]) := Snd.cons (snd_aload_n (i := 0) dX0_lift_62 rfl) (Snd.cons (snd_iconst (v := nI 0) dX0_lift_63 (by decide)) (Snd.cons (snd_puti (ci := 1) (k := 7) dX0_lift_64 rfl inX0 tyX0_ok nmX0 (by decide) tw_113 rfl rfl) Snd.nil))
theorem bX0_lift_67_72 {l : Launch} {E : XE} : Snd l E mX0_lift 67 72 (xs [x_aload 0, x_aload 0, x_get 1 2]) := Snd.cons (snd_aload_n (i := 0) dX0_lift_67 rfl) (Snd.cons (snd_aload_n (i := 0) dX0_lift_68 rfl) (Snd.cons (snd_get (ci := 1) (k := 2) dX0_lift_69 rfl inX0 (by decide) tw_106) Snd.nil))
theorem bX0_lift_75_76 {l : Launch} {E : XE} : Snd l E mX0_lift 75 76 (xs [x_istore 3]) := Snd.cons (snd_istore_n (i := 3) dX0_lift_75 rfl (by decide)) Snd.nil
theorem bX0_lift_76_79 {l : Launch} {E : XE} : Snd l E mX0_lift 76 79 (xs [x_iload 3, x_push (.int (-9))]) := Snd.cons (snd_iload_n (i := 3) dX0_lift_76 rfl) (Snd.cons (snd_bipush (v := -9) dX0_lift_77 (by decide)) Snd.nil)
theorem bX0_lift_82_88 {l : Launch} {E : XE} : Snd l E mX0_lift 82 88 (xs [x_aload 0, x_get 1 7, x_push (.int (nI 100000))]) := Snd.cons (snd_aload_n (i := 0) dX0_lift_82 rfl) (Snd.cons (snd_get (ci := 1) (k := 7) dX0_lift_83 rfl inX0 (by decide) tw_113) (Snd.cons (snd_ldc (v := nI 100000) dX0_lift_86 tw_733) Snd.nil))
theorem bX0_lift_91_99 {l : Launch} {E : XE} : Snd l E mX0_lift 91 99 (xs [x_aload 0, x_iload 3, x_aload 0, x_aload 0, x_get 1 2, x_iload 3]) := Snd.cons (snd_aload_n (i := 0) dX0_lift_91 rfl) (Snd.cons (snd_iload_n (i := 3) dX0_lift_92 rfl) (Snd.cons (snd_aload_n (i := 0) dX0_lift_93 rfl) (Snd.cons (snd_aload_n (i := 0) dX0_lift_94 rfl) (Snd.cons (snd_get (ci := 1) (k := 2) dX0_lift_95 rfl inX0 (by decide) tw_106) (Snd.cons (snd_iload_n (i := 3) dX0_lift_98 rfl) Snd.nil)))))
theorem bX0_lift_105_111 {l : Launch} {E : XE} : Snd l E mX0_lift 105 111 (xs [x_aload 0, x_dup, x_get 1 7, x_push (.int (nI 1))]) := Snd.cons (snd_aload_n (i := 0) dX0_lift_105 rfl) (Snd.cons (snd_dup dX0_lift_106) (Snd.cons (snd_get (ci := 1) (k := 7) dX0_lift_107 rfl inX0 (by decide) tw_113) (Snd.cons (snd_iconst (v := nI 1) dX0_lift_110 (by decide)) Snd.nil)))
theorem bX0_lift_112_115 {l : Launch} {E : XE} : Snd l E mX0_lift 112 115 (xs [x_puti 1 7]) := Snd.cons (snd_puti (ci := 1) (k := 7) dX0_lift_112 rfl inX0 tyX0_ok nmX0 (by decide) tw_113 rfl rfl) Snd.nil
theorem bX0_lift_115_120 {l : Launch} {E : XE} : Snd l E mX0_lift 115 120 (xs [x_aload 0, x_aload 0, x_get 1 2]) := Snd.cons (snd_aload_n (i := 0) dX0_lift_115 rfl) (Snd.cons (snd_aload_n (i := 0) dX0_lift_116 rfl) (Snd.cons (snd_get (ci := 1) (k := 2) dX0_lift_117 rfl inX0 (by decide) tw_106) Snd.nil))
theorem bX0_lift_123_76 {l : Launch} {E : XE} : Snd l E mX0_lift 123 76 (xs [x_istore 3, x_id]) := Snd.cons (snd_istore_n (i := 3) dX0_lift_123 rfl (by decide)) (Snd.cons (snd_goto (tgt := 76) dX0_lift_124 (by decide)) Snd.nil)
theorem bX0_lift_24_32 {l : Launch} {E : XE} : Snd l E mX0_lift 24 32 (xs [x_aload 0, x_get 1 3, x_iload 3, x_aload 2, x_aload 1, x_iload 3]) := Snd.cons (snd_aload_n (i := 0) dX0_lift_24 rfl) (Snd.cons (snd_get (ci := 1) (k := 3) dX0_lift_25 rfl inX0 (by decide) tw_107) (Snd.cons (snd_iload_n (i := 3) dX0_lift_28 rfl) (Snd.cons (snd_aload_n (i := 2) dX0_lift_29 rfl) (Snd.cons (snd_aload_n (i := 1) dX0_lift_30 rfl) (Snd.cons (snd_iload_n (i := 3) dX0_lift_31 rfl) Snd.nil)))))
theorem bX0_lift_45_18 {l : Launch} {E : XE} : Snd l E mX0_lift 45 18 (xs [x_id]) := Snd.cons (snd_goto (tgt := 18) dX0_lift_45 (by decide)) Snd.nil
set_option maxHeartbeats 4000000 in
set_option maxRecDepth 100000 in
theorem m_X0_lift {l : Launch} {E : XE} (S : SaleN) (O : OutN) (li gw : Nat → Int) (un lc n : Nat) (hS : SaleOK S) (hK : KeysL O (keysOf S (packsN S S.ca))) (hn : LiftsTo S n) : MetE l E mX0_lift (4) 0 0 [.ref 0, .ref 5, .ref 13] (billW 0 ((chB S li gw un lc)) ++ saleW 5 S ++ outW 13 O) (fun r w' => r = none ∧ w' = billW 0 (lfB S (itS S n) n) ++ saleW 5 S ++ outW 13 O) := by
  refine MetE.of (by decide +kernel) (Nat.le_of_ble_eq_true rfl) ?_
  have hKO := keys_ok hS hK
  have hwb := winB_lt hS 1023
  have hit : itTo S.st (winB S 1023) S.ca < 64 := itTo_lt S.ca (Nat.le_refl _) (fun k hk => (hS.2.2.1 k hk).2.2.1)
  refine ev_eq (lv' := [(0, .ref 0), (1, .ref 5), (2, .ref 13)]) (st' := []) (w' := billW 0 ((chB S li gw un lc)) ++ saleW 5 S ++ outW 13 O) rfl rfl rfl ?_
  refine ev_b bX0_lift_0_7 (lv' := [(0, .ref 0), (1, .ref 5), (2, .ref 13)]) (st' := [.int (nI (BillN.wi ((chB S li gw un lc)))), .ref 5, .ref 5, .ref 0]) (w2 := billW 0 ((chB S li gw un lc)) ++ saleW 5 S ++ outW 13 O) rfl ?_
  refine ev_callVN (Yc := mX3_itemsOf) [5, 6, 7, 8, 9, 10, 11, 12] dX0_lift_7 tn_722 kX3_itemsOf (m_X3_itemsOf S (winB S 1023) hS (by omega)) rfl (st := [.ref 5, .ref 0]) rfl rfl rfl (by decide) hw_Bill0_Sale5_Out13__5 (by decide) (Nat.le_of_ble_eq_true rfl) (Nat.le_refl _) (Nat.le_refl _) (fun r w' h => by obtain ⟨-, rfl⟩ := h; exact Nat.le_of_ble_eq_true rfl) ?_
  rintro _ _ ⟨rfl, rfl⟩
  refine ev_eq (lv' := [(0, .ref 0), (1, .ref 5), (2, .ref 13)]) (st' := [.int (nI (itTo S.st (winB S 1023) S.ca)), .ref 5, .ref 0]) (w' := billW 0 ((chB S li gw un lc)) ++ saleW 5 S ++ outW 13 O) rfl rfl xp_Bill0_Sale5_Out13__5 ?_
  refine ev_callVN (Yc := mX3_reservesBut) [5, 6, 7, 8, 9, 10, 11, 12] dX0_lift_10 tn_723 kX3_reservesBut (m_X3_reservesBut S (itTo S.st (winB S 1023) S.ca) (by omega)) rfl (st := [.ref 0]) rfl rfl rfl (by decide) hw_Bill0_Sale5_Out13__5 (by decide) (Nat.le_of_ble_eq_true rfl) (Nat.le_refl _) (Nat.le_refl _) (fun r w' h => by obtain ⟨-, rfl⟩ := h; exact Nat.le_of_ble_eq_true rfl) ?_
  rintro _ _ ⟨rfl, rfl⟩
  refine ev_eq (lv' := [(0, .ref 0), (1, .ref 5), (2, .ref 13)]) (st' := [.int (nI (rbTo S.rs (itTo S.st (winB S 1023) S.ca) 6)), .ref 0]) (w' := billW 0 ((chB S li gw un lc)) ++ saleW 5 S ++ outW 13 O) rfl rfl xp_Bill0_Sale5_Out13__5 ?_
  refine ev_top (y := (nI (unN S))) (congrArg nI (show rbTo S.rs (itTo S.st (winB S 1023) S.ca) 6 = unN S from by rfl)) ?_
  refine ev_b bX0_lift_13_18 (lv' := [(3, .int (nI (0))), (0, .ref 0), (1, .ref 5), (2, .ref 13)]) (st' := []) (w2 := billW 0 ((BillN.wo ((chB S li gw un lc)), BillN.ha ((chB S li gw un lc)), BillN.li ((chB S li gw un lc)), BillN.gw ((chB S li gw un lc)), BillN.wi ((chB S li gw un lc)), BillN.wr ((chB S li gw un lc)), unN S, BillN.lc ((chB S li gw un lc))) : BillN) ++ saleW 5 S ++ outW 13 O) rfl ?_
  have L18 : ∀ (j_ k : Nat), k + j_ = 32 → ∀ (G : Nat → Int), (∀ j, j < k → G j = gwZ S j) → Ev l E mX0_lift (4) 0 0 (billW 0 ((chB S li gw un lc)) ++ saleW 5 S ++ outW 13 O) (fun r w' => r = none ∧ w' = billW 0 (lfB S (itS S n) n) ++ saleW 5 S ++ outW 13 O) 0 0 18 [(3, .int (nI (k))), (0, .ref 0), (1, .ref 5), (2, .ref 13)] [] (billW 0 ((wonZ S, paidZ S, li, G, winB S 1023, winW S 1023, unN S, lc) : BillN) ++ saleW 5 S ++ outW 13 O) := by
    intro j_
    induction j_ with
    | zero =>
      intro k hk18 G hinv18
      replace hk18 : k = 32 := hk18
      refine ev_b bX0_lift_18_21 (lv' := [(3, .int (nI (k))), (0, .ref 0), (1, .ref 5), (2, .ref 13)]) (st' := [.int (nI (32)), .int (nI (k))]) (w2 := billW 0 ((wonZ S, paidZ S, li, G, winB S 1023, winW S 1023, unN S, lc) : BillN) ++ saleW 5 S ++ outW 13 O) rfl ?_
      refine ev_icmp_ge_n (tgt := 48) (by omega) (by decide) dX0_lift_21 (by decide) (fun h21 => ?_) (fun h21 => (by exfalso; omega))
      refine ev_arr (b := 4) (g := aZ (gwZ S)) rfl (fun j hj => congrArg zI (hinv18 j (by omega))) ?_
      refine ev_eq (w' := billW 0 ((lfB S li lc)) ++ saleW 5 S ++ outW 13 O) rfl rfl rfl ?_
      refine ev_b bX0_lift_48_59 (lv' := [(3, .int (nI (k))), (0, .ref 0), (1, .ref 5), (2, .ref 13)]) (st' := [.int (nI (5)), .int (nI (0)), .ref 3, .int (nI (0)), .ref 2]) (w2 := billW 0 ((lfB S li lc)) ++ saleW 5 S ++ outW 13 O) rfl ?_
      refine ev_copy dX0_lift_59 tw_724 tw_378 tw_377 tw_13 rfl rfl (by decide) (by decide) (Nat.le_of_ble_eq_true rfl) ?_
      refine ev_eq (w' := billW 0 ((BillN.wo ((lfB S li lc)), BillN.ha ((lfB S li lc)), BillN.ha ((lfB S li lc)), BillN.gw ((lfB S li lc)), BillN.wi ((lfB S li lc)), BillN.wr ((lfB S li lc)), BillN.un ((lfB S li lc)), BillN.lc ((lfB S li lc))) : BillN) ++ saleW 5 S ++ outW 13 O) rfl rfl rfl ?_
      refine ev_b bX0_lift_62_67 (lv' := [(3, .int (nI (k))), (0, .ref 0), (1, .ref 5), (2, .ref 13)]) (st' := []) (w2 := billW 0 ((BillN.wo ((lfB S li lc)), BillN.ha ((lfB S li lc)), BillN.ha ((lfB S li lc)), BillN.gw ((lfB S li lc)), BillN.wi ((lfB S li lc)), BillN.wr ((lfB S li lc)), BillN.un ((lfB S li lc)), 0) : BillN) ++ saleW 5 S ++ outW 13 O) rfl ?_
      refine ev_eq (w' := billW 0 ((lfB S (itS S 0) 0)) ++ saleW 5 S ++ outW 13 O) rfl rfl rfl ?_
      refine ev_b bX0_lift_67_72 (lv' := [(3, .int (nI (k))), (0, .ref 0), (1, .ref 5), (2, .ref 13)]) (st' := [.ref 3, .ref 0]) (w2 := billW 0 ((lfB S (itS S 0) 0)) ++ saleW 5 S ++ outW 13 O) rfl ?_
      refine ev_callV (Yc := mX0_blocker) [0, 1, 2, 3, 4] dX0_lift_72 tw_725 kX0_blocker (m_X0_blocker_2 (lfB S (itS S 0) 0) (bill_ok hS (fun i hi => absurd hi (Nat.not_lt_zero i)))) rfl (st := []) rfl rfl rfl (by decide) hw_Bill0_Sale5_Out13__0 (by decide) (Nat.le_of_ble_eq_true rfl) (Nat.le_refl _) (Nat.le_refl _) (fun r w' h => by obtain ⟨-, rfl⟩ := h; exact Nat.le_of_ble_eq_true rfl) ?_
      rintro _ _ ⟨rfl, rfl⟩
      refine ev_eq (lv' := [(3, .int (nI (k))), (0, .ref 0), (1, .ref 5), (2, .ref 13)]) (st' := [.int (zI ((blkTo (lfB S (itS S 0) 0) (itS S 0) 32).2))]) (w' := billW 0 ((lfB S (itS S 0) 0)) ++ saleW 5 S ++ outW 13 O) rfl rfl xp_Bill0_Sale5_Out13__0 ?_
      refine ev_top (y := (zI ((blkS S (itS S 0)).2))) (congrArg zI (show (blkTo (lfB S (itS S 0) 0) (itS S 0) 32).2 = (blkS S (itS S 0)).2 from by unfold blkS; rw [blk_congB (g := 0)])) ?_
      refine ev_b bX0_lift_75_76 (lv' := [(3, .int (zI ((blkS S (itS S 0)).2))), (0, .ref 0), (1, .ref 5), (2, .ref 13)]) (st' := []) (w2 := billW 0 ((lfB S (itS S 0) 0)) ++ saleW 5 S ++ outW 13 O) rfl ?_
      have L76 : ∀ (j_ k : Nat), k + j_ = n → Ev l E mX0_lift (4) 0 0 (billW 0 ((chB S li gw un lc)) ++ saleW 5 S ++ outW 13 O) (fun r w' => r = none ∧ w' = billW 0 (lfB S (itS S n) n) ++ saleW 5 S ++ outW 13 O) 0 0 76 [(3, .int (zI ((blkS S (itS S k)).2))), (0, .ref 0), (1, .ref 5), (2, .ref 13)] [] (billW 0 ((lfB S (itS S k) k)) ++ saleW 5 S ++ outW 13 O) := by
        intro j_
        induction j_ with
        | zero =>
          intro k hk76  
          replace hk76 : k = n := hk76
          subst hk76
          have hb9 := hn.2.2
          have hbk := it_facts hS hn.2.1
          refine ev_b bX0_lift_76_79 (lv' := [(3, .int (zI ((blkS S (itS S k)).2))), (0, .ref 0), (1, .ref 5), (2, .ref 13)]) (st' := [.int (-9), .int (zI ((blkS S (itS S k)).2))]) (w2 := billW 0 ((lfB S (itS S k) k)) ++ saleW 5 S ++ outW 13 O) rfl ?_
          refine ev_top (y := zI (-9)) (by decide) ?_
          refine ev_icmp_eq_z (tgt := 127) (by constructor <;> omega) (by constructor <;> omega) dX0_lift_79 (by decide) (fun h79 => ?_) (fun h79 => (by exfalso; omega))
          exact ev_vret dX0_lift_127 rfl (Nat.le_of_ble_eq_true rfl) (Nat.le_refl _) (Nat.le_refl _) ⟨rfl, rfl⟩
        | succ j_ ih76 =>
          intro k hk76  
          have hlt76 : k < n := by omega
          have hb9 := hn.2.1 k hlt76
          have hpre : ∀ i, i < k → (blkS S (itS S i)).2 ≠ -9 := fun i hi => hn.2.1 i (by omega)
          have hnx : ∀ i, i < k + 1 → (blkS S (itS S i)).2 ≠ -9 := fun i hi => hn.2.1 i (by omega)
          have hok := bill_ok hS hpre (m := 0) (h := paidZ S)
          have hbk := it_facts hS hpre
          have hn1 := hn.1
          have hlc : BillN.lc (lfB S (itS S k) k) = k := rfl
          obtain ⟨g, hg, hgz, hg32, hx⟩ := it_exc hS hpre hb9
          have hbw := hok.1
          have hbl := hok.2.1
          have hle : ∀ j, j < 5 → itS S k j ≤ wonZ S j := fun j hj => (it_bnd hS k hpre j hj).2
          refine ev_b bX0_lift_76_79 (lv' := [(3, .int (zI ((blkS S (itS S k)).2))), (0, .ref 0), (1, .ref 5), (2, .ref 13)]) (st' := [.int (-9), .int (zI ((blkS S (itS S k)).2))]) (w2 := billW 0 ((lfB S (itS S k) k)) ++ saleW 5 S ++ outW 13 O) rfl ?_
          refine ev_top (y := zI (-9)) (by decide) ?_
          refine ev_icmp_eq_z (tgt := 127) (by constructor <;> omega) (by constructor <;> omega) dX0_lift_79 (by decide) (fun h79 => (by exfalso; omega)) (fun h79 => ?_)
          refine ev_b bX0_lift_82_88 (lv' := [(3, .int (zI ((blkS S (itS S k)).2))), (0, .ref 0), (1, .ref 5), (2, .ref 13)]) (st' := [.int (nI (100000)), .int (nI (BillN.lc ((lfB S (itS S k) k))))]) (w2 := billW 0 ((lfB S (itS S k) k)) ++ saleW 5 S ++ outW 13 O) rfl ?_
          refine ev_icmp_ge_n (tgt := 127) (by omega) (by decide) dX0_lift_88 (by decide) (fun h88 => (by exfalso; omega)) (fun h88 => ?_)
          refine ev_eq (lv' := [(3, .int (nI (g))), (0, .ref 0), (1, .ref 5), (2, .ref 13)]) (by rw [hgz, zI_nat]) rfl rfl ?_
          refine ev_b bX0_lift_91_99 (lv' := [(3, .int (nI (g))), (0, .ref 0), (1, .ref 5), (2, .ref 13)]) (st' := [.int (nI (g)), .ref 3, .ref 0, .int (nI (g)), .ref 0]) (w2 := billW 0 ((lfB S (itS S k) k)) ++ saleW 5 S ++ outW 13 O) rfl ?_
          refine ev_callV (Yc := mX0_excess) [0, 1, 2, 3, 4] dX0_lift_99 tw_729 kX0_excess (m_X0_excess_2 (lfB S (itS S k) k) g hg32) rfl (st := [.int (nI (g)), .ref 0]) rfl rfl rfl (by decide) hw_Bill0_Sale5_Out13__0 (by decide) (Nat.le_of_ble_eq_true rfl) (Nat.le_refl _) (Nat.le_refl _) (fun r w' h => by obtain ⟨-, rfl⟩ := h; exact Nat.le_of_ble_eq_true rfl) ?_
          rintro _ _ ⟨rfl, rfl⟩
          refine ev_eq (lv' := [(3, .int (nI (g))), (0, .ref 0), (1, .ref 5), (2, .ref 13)]) (st' := [.int (zI (excZ (lfB S (itS S k) k) (itS S k) g)), .int (nI (g)), .ref 0]) (w' := billW 0 ((lfB S (itS S k) k)) ++ saleW 5 S ++ outW 13 O) rfl rfl xp_Bill0_Sale5_Out13__0 ?_
          refine ev_top (y := (zI (excS S (itS S k) g))) (congrArg zI (show excZ (lfB S (itS S k) k) (itS S k) g = excS S (itS S k) g from by rfl)) ?_
          refine ev_callV (Yc := mX0_putOnOthers) [0, 1, 2, 3, 4] dX0_lift_102 tw_734 kX0_putOnOthers (m_X0_putOnOthers (lfB S (itS S k) k) g (excS S (itS S k) g) hg32 hx hbw hbl hle) rfl (st := []) rfl rfl rfl (by decide) hw_Bill0_Sale5_Out13__0 (by decide) (Nat.le_of_ble_eq_true rfl) (Nat.le_refl _) (Nat.le_refl _) (fun r w' h => by obtain ⟨-, rfl⟩ := h; exact Nat.le_of_ble_eq_true rfl) ?_
          rintro _ _ ⟨rfl, rfl⟩
          refine ev_eq (lv' := [(3, .int (nI (g))), (0, .ref 0), (1, .ref 5), (2, .ref 13)]) (st' := []) (w' := billW 0 (((wonZ S, paidZ S, (putTo (wonZ S) g (itS S k) (excS S (itS S k) g) 5).1, gwZ S, winB S 1023, winW S 1023, unN S, k) : BillN)) ++ saleW 5 S ++ outW 13 O) rfl rfl xp_Bill0_Sale5_Out13__0 ?_
          refine ev_b bX0_lift_105_111 (lv' := [(3, .int (nI (g))), (0, .ref 0), (1, .ref 5), (2, .ref 13)]) (st' := [.int (nI (1)), .int (nI (BillN.lc (((wonZ S, paidZ S, (putTo (wonZ S) g (itS S k) (excS S (itS S k) g) 5).1, gwZ S, winB S 1023, winW S 1023, unN S, k) : BillN)))), .ref 0]) (w2 := billW 0 (((wonZ S, paidZ S, (putTo (wonZ S) g (itS S k) (excS S (itS S k) g) 5).1, gwZ S, winB S 1023, winW S 1023, unN S, k) : BillN)) ++ saleW 5 S ++ outW 13 O) rfl ?_
          refine ev_iadd_n dX0_lift_111 ?_
          refine ev_b bX0_lift_112_115 (lv' := [(3, .int (nI (g))), (0, .ref 0), (1, .ref 5), (2, .ref 13)]) (st' := []) (w2 := billW 0 ((BillN.wo (((wonZ S, paidZ S, (putTo (wonZ S) g (itS S k) (excS S (itS S k) g) 5).1, gwZ S, winB S 1023, winW S 1023, unN S, k) : BillN)), BillN.ha (((wonZ S, paidZ S, (putTo (wonZ S) g (itS S k) (excS S (itS S k) g) 5).1, gwZ S, winB S 1023, winW S 1023, unN S, k) : BillN)), BillN.li (((wonZ S, paidZ S, (putTo (wonZ S) g (itS S k) (excS S (itS S k) g) 5).1, gwZ S, winB S 1023, winW S 1023, unN S, k) : BillN)), BillN.gw (((wonZ S, paidZ S, (putTo (wonZ S) g (itS S k) (excS S (itS S k) g) 5).1, gwZ S, winB S 1023, winW S 1023, unN S, k) : BillN)), BillN.wi (((wonZ S, paidZ S, (putTo (wonZ S) g (itS S k) (excS S (itS S k) g) 5).1, gwZ S, winB S 1023, winW S 1023, unN S, k) : BillN)), BillN.wr (((wonZ S, paidZ S, (putTo (wonZ S) g (itS S k) (excS S (itS S k) g) 5).1, gwZ S, winB S 1023, winW S 1023, unN S, k) : BillN)), BillN.un (((wonZ S, paidZ S, (putTo (wonZ S) g (itS S k) (excS S (itS S k) g) 5).1, gwZ S, winB S 1023, winW S 1023, unN S, k) : BillN)), (BillN.lc (((wonZ S, paidZ S, (putTo (wonZ S) g (itS S k) (excS S (itS S k) g) 5).1, gwZ S, winB S 1023, winW S 1023, unN S, k) : BillN))) + 1) : BillN) ++ saleW 5 S ++ outW 13 O) rfl ?_
          refine ev_eq (w' := billW 0 ((lfB S (itS S (k + 1)) (k + 1))) ++ saleW 5 S ++ outW 13 O) rfl rfl (by rw [show itS S (k + 1) = stepS S (itS S k) from rfl, show stepS S (itS S k) = (putTo (wonZ S) g (itS S k) (excS S (itS S k) g) 5).1 from by unfold stepS; rw [hg]] <;> rfl) ?_
          refine ev_b bX0_lift_115_120 (lv' := [(3, .int (nI (g))), (0, .ref 0), (1, .ref 5), (2, .ref 13)]) (st' := [.ref 3, .ref 0]) (w2 := billW 0 ((lfB S (itS S (k + 1)) (k + 1))) ++ saleW 5 S ++ outW 13 O) rfl ?_
          refine ev_callV (Yc := mX0_blocker) [0, 1, 2, 3, 4] dX0_lift_120 tw_725 kX0_blocker (m_X0_blocker_2 (lfB S (itS S (k + 1)) (k + 1)) (bill_ok hS hnx)) rfl (st := []) rfl rfl rfl (by decide) hw_Bill0_Sale5_Out13__0 (by decide) (Nat.le_of_ble_eq_true rfl) (Nat.le_refl _) (Nat.le_refl _) (fun r w' h => by obtain ⟨-, rfl⟩ := h; exact Nat.le_of_ble_eq_true rfl) ?_
          rintro _ _ ⟨rfl, rfl⟩
          refine ev_eq (lv' := [(3, .int (nI (g))), (0, .ref 0), (1, .ref 5), (2, .ref 13)]) (st' := [.int (zI ((blkTo (lfB S (itS S (k + 1)) (k + 1)) (itS S (k + 1)) 32).2))]) (w' := billW 0 ((lfB S (itS S (k + 1)) (k + 1))) ++ saleW 5 S ++ outW 13 O) rfl rfl xp_Bill0_Sale5_Out13__0 ?_
          refine ev_top (y := (zI ((blkS S (itS S (k + 1))).2))) (congrArg zI (show (blkTo (lfB S (itS S (k + 1)) (k + 1)) (itS S (k + 1)) 32).2 = (blkS S (itS S (k + 1))).2 from by unfold blkS; rw [blk_congB (g := 0)])) ?_
          refine ev_b bX0_lift_123_76 (lv' := [(3, .int (zI ((blkS S (itS S (k + 1))).2))), (0, .ref 0), (1, .ref 5), (2, .ref 13)]) (st' := []) (w2 := billW 0 ((lfB S (itS S (k + 1)) (k + 1))) ++ saleW 5 S ++ outW 13 O) rfl ?_
          exact ih76 (k + 1) (by omega) 
      exact L76 n 0 (by omega) 
    | succ j_ ih18 =>
      intro k hk18 G hinv18
      have hlt18 : k < 32 := by omega
      obtain ⟨-, -, -, -, -, -, -, -, hk1, hk2, -⟩ := wK_spec hS (bgTo S.ow k 5)
      refine ev_b bX0_lift_18_21 (lv' := [(3, .int (nI (k))), (0, .ref 0), (1, .ref 5), (2, .ref 13)]) (st' := [.int (nI (32)), .int (nI (k))]) (w2 := billW 0 ((wonZ S, paidZ S, li, G, winB S 1023, winW S 1023, unN S, lc) : BillN) ++ saleW 5 S ++ outW 13 O) rfl ?_
      refine ev_icmp_ge_n (tgt := 48) (by omega) (by decide) dX0_lift_21 (by decide) (fun h21 => (by exfalso; omega)) (fun h21 => ?_)
      refine ev_b bX0_lift_24_32 (lv' := [(3, .int (nI (k))), (0, .ref 0), (1, .ref 5), (2, .ref 13)]) (st' := [.int (nI (k)), .ref 5, .ref 13, .int (nI (k)), .ref 4]) (w2 := billW 0 ((wonZ S, paidZ S, li, G, winB S 1023, winW S 1023, unN S, lc) : BillN) ++ saleW 5 S ++ outW 13 O) rfl ?_
      refine ev_callVN (Yc := mX3_bidsOfGroup) [5, 6, 7, 8, 9, 10, 11, 12] dX0_lift_32 tn_601 kX3_bidsOfGroup (m_X3_bidsOfGroup S k (by omega)) rfl (st := [.ref 13, .int (nI (k)), .ref 4]) rfl rfl rfl (by decide) hw_Bill0_Sale5_Out13__5 (by decide) (Nat.le_of_ble_eq_true rfl) (Nat.le_refl _) (Nat.le_refl _) (fun r w' h => by obtain ⟨-, rfl⟩ := h; exact Nat.le_of_ble_eq_true rfl) ?_
      rintro _ _ ⟨rfl, rfl⟩
      refine ev_eq (lv' := [(3, .int (nI (k))), (0, .ref 0), (1, .ref 5), (2, .ref 13)]) (st' := [.int (nI (bgTo S.ow k 5)), .ref 13, .int (nI (k)), .ref 4]) (w' := billW 0 ((wonZ S, paidZ S, li, G, winB S 1023, winW S 1023, unN S, lc) : BillN) ++ saleW 5 S ++ outW 13 O) rfl rfl xp_Bill0_Sale5_Out13__5 ?_
      refine ev_callVN (Yc := mX1_first) [13, 14, 15, 16, 17] dX0_lift_35 tn_596 kX1_first (m_X1_first O (bgTo S.ow k 5) hKO) rfl (st := [.int (nI (k)), .ref 4]) rfl rfl rfl (by decide) hw_Bill0_Sale5_Out13__13 (by decide) (Nat.le_of_ble_eq_true rfl) (Nat.le_refl _) (Nat.le_refl _) (fun r w' h => by obtain ⟨-, rfl⟩ := h; exact Nat.le_of_ble_eq_true rfl) ?_
      rintro _ _ ⟨rfl, rfl⟩
      refine ev_eq (lv' := [(3, .int (nI (k))), (0, .ref 0), (1, .ref 5), (2, .ref 13)]) (st' := [.int (nI (firstTo O.ke (bgTo S.ow k 5) O.sz)), .int (nI (k)), .ref 4]) (w' := billW 0 ((wonZ S, paidZ S, li, G, winB S 1023, winW S 1023, unN S, lc) : BillN) ++ saleW 5 S ++ outW 13 O) rfl rfl xp_Bill0_Sale5_Out13__13 ?_
      refine ev_top (y := (nI (wK S (bgTo S.ow k 5)))) (congrArg nI (show firstTo O.ke (bgTo S.ow k 5) O.sz = wK S (bgTo S.ow k 5) from by exact first_L hK _)) ?_
      refine ev_callSN (Yc := mX1_worthIn) [] dX0_lift_38 tn_598 kX1_worthIn (m_X1_worthIn (wK S (bgTo S.ow k 5)) hk1 hk2) rfl (st := [.int (nI (k)), .ref 4]) rfl (by decide) rfl (by decide) (Nat.le_of_ble_eq_true rfl) (Nat.le_refl _) (Nat.le_refl _) (fun r w' h => by obtain ⟨-, rfl⟩ := h; exact Nat.le_of_ble_eq_true rfl) ?_
      rintro _ _ ⟨rfl, rfl⟩
      refine ev_eq (lv' := [(3, .int (nI (k))), (0, .ref 0), (1, .ref 5), (2, .ref 13)]) (st' := [.int (nI (worthK (wK S (bgTo S.ow k 5)))), .int (nI (k)), .ref 4]) (w' := billW 0 ((wonZ S, paidZ S, li, G, winB S 1023, winW S 1023, unN S, lc) : BillN) ++ saleW 5 S ++ outW 13 O) rfl rfl rfl ?_
      refine ev_top (y := (nI (winW S (bgTo S.ow k 5)))) (congrArg nI (show worthK (wK S (bgTo S.ow k 5)) = winW S (bgTo S.ow k 5) from by rfl)) ?_
      refine ev_top (y := zI (((winW S (bgTo S.ow k 5) : Nat) : Int))) (zI_nat _).symm ?_
      refine ev_iast_z (f := G) dX0_lift_41 rfl (by omega) (by decide) ?_
      refine ev_eq (w' := billW 0 ((wonZ S, paidZ S, li, up G k (((winW S (bgTo S.ow k 5) : Nat) : Int)), winB S 1023, winW S 1023, unN S, lc) : BillN) ++ saleW 5 S ++ outW 13 O) rfl rfl rfl ?_
      refine ev_iinc_n (x := k) (v := 1) dX0_lift_42 rfl (by decide) ?_
      refine ev_eq (lv' := [(3, .int (nI (k + 1))), (0, .ref 0), (1, .ref 5), (2, .ref 13)]) rfl rfl rfl ?_
      refine ev_b bX0_lift_45_18 (lv' := [(3, .int (nI (k + 1))), (0, .ref 0), (1, .ref 5), (2, .ref 13)]) (st' := []) (w2 := billW 0 ((wonZ S, paidZ S, li, up G k (((winW S (bgTo S.ow k 5) : Nat) : Int)), winB S 1023, winW S 1023, unN S, lc) : BillN) ++ saleW 5 S ++ outW 13 O) rfl ?_
      rw [show nI (k + 1) = nI ((k + 1)) from congrArg nI (by omega)]
      exact ih18 (k + 1) (by omega) _ (gw_up hinv18)
  exact L18 32 0 (by omega) gw (fun j hj => absurd hj (Nat.not_lt_zero j))
