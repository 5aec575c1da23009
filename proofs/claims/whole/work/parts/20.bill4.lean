theorem bX0_putOnOthers_0_5 {l : Launch} {E : XE} : Snd l E mX0_putOnOthers 0 5 (xs [x_iload 2, x_istore 3, x_push (.int (nI 0)), x_istore 4]) := Snd.cons (snd_iload_n (i := 2) dX0_putOnOthers_0 rfl) (Snd.cons (snd_istore_n (i := 3) dX0_putOnOthers_1 rfl (by decide)) (Snd.cons (snd_iconst (v := nI 0) dX0_putOnOthers_2 (by decide)) (Snd.cons (snd_istore dX0_putOnOthers_3 (by decide)) Snd.nil)))
theorem bX0_putOnOthers_5_8 {l : Launch} {E : XE} : Snd l E mX0_putOnOthers 5 8 (xs [x_iload 4, x_push (.int (nI 5))]) := Snd.cons (snd_iload dX0_putOnOthers_5) (Snd.cons (snd_iconst (v := nI 5) dX0_putOnOthers_7 (by decide)) Snd.nil)
theorem bX0_putOnOthers_11_14 {l : Launch} {E : XE} : Snd l E mX0_putOnOthers 11 14 (xs [x_iload 1, x_iload 4]) := Snd.cons (snd_iload_n (i := 1) dX0_putOnOthers_11 rfl) (Snd.cons (snd_iload dX0_putOnOthers_12) Snd.nil)
theorem bX0_putOnOthers_61_5 {l : Launch} {E : XE} : Snd l E mX0_putOnOthers 61 5 (xs [x_id]) := Snd.cons (snd_goto (tgt := 5) dX0_putOnOthers_61 (by decide)) Snd.nil
theorem bX0_putOnOthers_20_27 {l : Launch} {E : XE} : Snd l E mX0_putOnOthers 20 27 (xs [x_iload 3, x_aload 0, x_get 1 0, x_iload 4]) := Snd.cons (snd_iload_n (i := 3) dX0_putOnOthers_20 rfl) (Snd.cons (snd_aload_n (i := 0) dX0_putOnOthers_21 rfl) (Snd.cons (snd_get (ci := 1) (k := 0) dX0_putOnOthers_22 rfl inX0 (by decide) tw_102) (Snd.cons (snd_iload dX0_putOnOthers_25) Snd.nil)))
theorem bX0_putOnOthers_28_34 {l : Launch} {E : XE} : Snd l E mX0_putOnOthers 28 34 (xs [x_aload 0, x_get 1 2, x_iload 4]) := Snd.cons (snd_aload_n (i := 0) dX0_putOnOthers_28 rfl) (Snd.cons (snd_get (ci := 1) (k := 2) dX0_putOnOthers_29 rfl inX0 (by decide) tw_106) (Snd.cons (snd_iload dX0_putOnOthers_32) Snd.nil))
theorem bX0_putOnOthers_39_48 {l : Launch} {E : XE} : Snd l E mX0_putOnOthers 39 48 (xs [x_istore 5, x_aload 0, x_get 1 2, x_iload 4, x_dup2]) := Snd.cons (snd_istore dX0_putOnOthers_39 (by decide)) (Snd.cons (snd_aload_n (i := 0) dX0_putOnOthers_41 rfl) (Snd.cons (snd_get (ci := 1) (k := 2) dX0_putOnOthers_42 rfl inX0 (by decide) tw_106) (Snd.cons (snd_iload dX0_putOnOthers_45) (Snd.cons (snd_dup2 dX0_putOnOthers_47) Snd.nil))))
theorem bX0_putOnOthers_49_51 {l : Launch} {E : XE} : Snd l E mX0_putOnOthers 49 51 (xs [x_iload 5]) := Snd.cons (snd_iload dX0_putOnOthers_49) Snd.nil
theorem bX0_putOnOthers_53_56 {l : Launch} {E : XE} : Snd l E mX0_putOnOthers 53 56 (xs [x_iload 3, x_iload 5]) := Snd.cons (snd_iload_n (i := 3) dX0_putOnOthers_53 rfl) (Snd.cons (snd_iload dX0_putOnOthers_54) Snd.nil)
theorem bX0_putOnOthers_57_58 {l : Launch} {E : XE} : Snd l E mX0_putOnOthers 57 58 (xs [x_istore 3]) := Snd.cons (snd_istore_n (i := 3) dX0_putOnOthers_57 rfl (by decide)) Snd.nil
set_option maxHeartbeats 4000000 in
set_option maxRecDepth 100000 in
theorem m_X0_putOnOthers {l : Launch} {E : XE} (B : BillN) (g : Nat) (x : Int) (hg : g < 32) (hx : 0 ≤ x ∧ x ≤ 3000000) (hw : BndZ B.wo) (hl : BndZ B.li) (hle : ∀ j, j < 5 → B.li j ≤ B.wo j) : MetE l E mX0_putOnOthers (1) 0 0 [.ref 0, .int (nI (g)), .int (zI (x))] (billW 0 B) (fun r w' => r = none ∧ w' = billW 0 ((B.wo, B.ha, (putTo B.wo g B.li x 5).1, B.gw, B.wi, B.wr, B.un, B.lc) : BillN)) := by
  refine MetE.of (by decide +kernel) (Nat.le_of_ble_eq_true rfl) ?_
  refine ev_eq (lv' := [(0, .ref 0), (1, .int (nI (g))), (2, .int (zI (x)))]) (st' := []) (w' := billW 0 B) rfl rfl rfl ?_
  refine ev_b bX0_putOnOthers_0_5 (lv' := [(4, .int (nI (0))), (3, .int (zI (x))), (0, .ref 0), (1, .int (nI (g))), (2, .int (zI (x)))]) (st' := []) (w2 := billW 0 B) rfl ?_
  have L5 : ∀ (j_ k : Nat), k + j_ = 5 → Ev l E mX0_putOnOthers (1) 0 0 (billW 0 B) (fun r w' => r = none ∧ w' = billW 0 ((B.wo, B.ha, (putTo B.wo g B.li x 5).1, B.gw, B.wi, B.wr, B.un, B.lc) : BillN)) 0 0 5 [(4, .int (nI (k))), (3, .int (zI ((putTo B.wo g B.li x k).2))), (0, .ref 0), (1, .int (nI (g))), (2, .int (zI (x)))] [] (billW 0 ((B.wo, B.ha, (putTo B.wo g B.li x k).1, B.gw, B.wi, B.wr, B.un, B.lc) : BillN)) := by
    intro j_
    induction j_ with
    | zero =>
      intro k hk5  
      replace hk5 : k = 5 := hk5
      subst hk5
      refine ev_b bX0_putOnOthers_5_8 (lv' := [(4, .int (nI (5))), (3, .int (zI ((putTo B.wo g B.li x 5).2))), (0, .ref 0), (1, .int (nI (g))), (2, .int (zI (x)))]) (st' := [.int (nI (5)), .int (nI (5))]) (w2 := billW 0 ((B.wo, B.ha, (putTo B.wo g B.li x 5).1, B.gw, B.wi, B.wr, B.un, B.lc) : BillN)) rfl ?_
      refine ev_icmp_ge_n (tgt := 64) (by decide) (by decide) dX0_putOnOthers_8 (by decide) (fun h8 => ?_) (fun h8 => (by exfalso; omega))
      exact ev_vret dX0_putOnOthers_64 rfl (Nat.le_of_ble_eq_true rfl) (Nat.le_refl _) (Nat.le_refl _) ⟨rfl, rfl⟩
    | succ j_ ih5 =>
      intro k hk5  
      have hlt5 : k < 5 := by omega
      have hpb := putTo_bnd (g := g) hle hx.1 k (by omega)
      have hpk := hpb.2.2 k (by omega)
      have hwk := hw k (by omega)
      have hlk := hl k (by omega)
      refine ev_b bX0_putOnOthers_5_8 (lv' := [(4, .int (nI (k))), (3, .int (zI ((putTo B.wo g B.li x k).2))), (0, .ref 0), (1, .int (nI (g))), (2, .int (zI (x)))]) (st' := [.int (nI (5)), .int (nI (k))]) (w2 := billW 0 ((B.wo, B.ha, (putTo B.wo g B.li x k).1, B.gw, B.wi, B.wr, B.un, B.lc) : BillN)) rfl ?_
      refine ev_icmp_ge_n (tgt := 64) (by omega) (by decide) dX0_putOnOthers_8 (by decide) (fun h8 => (by exfalso; omega)) (fun h8 => ?_)
      refine ev_b bX0_putOnOthers_11_14 (lv' := [(4, .int (nI (k))), (3, .int (zI ((putTo B.wo g B.li x k).2))), (0, .ref 0), (1, .int (nI (g))), (2, .int (zI (x)))]) (st' := [.int (nI (k)), .int (nI (g))]) (w2 := billW 0 ((B.wo, B.ha, (putTo B.wo g B.li x k).1, B.gw, B.wi, B.wr, B.un, B.lc) : BillN)) rfl ?_
      refine ev_callSN (Yc := mX6_bitAt) [] dX0_putOnOthers_14 tn_610 kX6_bitAt (m_X6_bitAt g k (by omega) (by omega)) rfl (st := []) rfl (by decide) rfl (by decide) (Nat.le_of_ble_eq_true rfl) (Nat.le_refl _) (Nat.le_refl _) (fun r w' h => by obtain ⟨-, rfl⟩ := h; exact Nat.le_of_ble_eq_true rfl) ?_
      rintro _ _ ⟨rfl, rfl⟩
      refine ev_eq (lv' := [(4, .int (nI (k))), (3, .int (zI ((putTo B.wo g B.li x k).2))), (0, .ref 0), (1, .int (nI (g))), (2, .int (zI (x)))]) (st' := [.int (nI (b01 (g.testBit k = true)))]) (w' := billW 0 ((B.wo, B.ha, (putTo B.wo g B.li x k).1, B.gw, B.wi, B.wr, B.un, B.lc) : BillN)) rfl rfl rfl ?_
      refine ev_ifne_b (tgt := 58) dX0_putOnOthers_17 (by decide) (fun h17 => ?_) (fun h17 => ?_)
      · skip
        refine ev_iinc_n (x := k) (v := 1) dX0_putOnOthers_58 rfl (by decide) ?_
        refine ev_eq (lv' := [(4, .int (nI (k + 1))), (3, .int (zI ((putTo B.wo g B.li x k).2))), (0, .ref 0), (1, .int (nI (g))), (2, .int (zI (x)))]) rfl rfl rfl ?_
        refine ev_b bX0_putOnOthers_61_5 (lv' := [(4, .int (nI (k + 1))), (3, .int (zI ((putTo B.wo g B.li x k).2))), (0, .ref 0), (1, .int (nI (g))), (2, .int (zI (x)))]) (st' := []) (w2 := billW 0 ((B.wo, B.ha, (putTo B.wo g B.li x k).1, B.gw, B.wi, B.wr, B.un, B.lc) : BillN)) rfl ?_
        rw [show nI (k + 1) = nI ((k + 1)) from congrArg nI (by omega)]
        rw [show zI ((putTo B.wo g B.li x k).2) = zI ((putTo B.wo g B.li x (k + 1)).2) from congrArg zI (by rw [putTo_s]; first | rw [if_pos h17] | rw [if_neg h17])]
        refine ev_eq (lv' := [(4, .int (nI ((k + 1)))), (3, .int (zI ((putTo B.wo g B.li x (k + 1)).2))), (0, .ref 0), (1, .int (nI (g))), (2, .int (zI (x)))]) (w' := billW 0 ((B.wo, B.ha, (putTo B.wo g B.li x (k + 1)).1, B.gw, B.wi, B.wr, B.un, B.lc) : BillN)) rfl rfl (by rw [putTo_s]; first | rw [if_pos h17] | rw [if_neg h17]) ?_
        exact ih5 (k + 1) (by omega) 
      · skip
        refine ev_b bX0_putOnOthers_20_27 (lv' := [(4, .int (nI (k))), (3, .int (zI ((putTo B.wo g B.li x k).2))), (0, .ref 0), (1, .int (nI (g))), (2, .int (zI (x)))]) (st' := [.int (nI (k)), .ref 1, .int (zI ((putTo B.wo g B.li x k).2))]) (w2 := billW 0 ((B.wo, B.ha, (putTo B.wo g B.li x k).1, B.gw, B.wi, B.wr, B.un, B.lc) : BillN)) rfl ?_
        refine ev_iald_z (f := B.wo) dX0_putOnOthers_27 rfl (by omega) (by decide) ?_
        refine ev_b bX0_putOnOthers_28_34 (lv' := [(4, .int (nI (k))), (3, .int (zI ((putTo B.wo g B.li x k).2))), (0, .ref 0), (1, .int (nI (g))), (2, .int (zI (x)))]) (st' := [.int (nI (k)), .ref 3, .int (zI (B.wo k)), .int (zI ((putTo B.wo g B.li x k).2))]) (w2 := billW 0 ((B.wo, B.ha, (putTo B.wo g B.li x k).1, B.gw, B.wi, B.wr, B.un, B.lc) : BillN)) rfl ?_
        refine ev_iald_z (f := (putTo B.wo g B.li x k).1) dX0_putOnOthers_34 rfl (by omega) (by decide) ?_
        refine ev_isub_z dX0_putOnOthers_35 ?_
        refine ev_min dX0_putOnOthers_36 tw_738 tw_739 tw_15 tw_740 (by decide) (Nat.le_of_ble_eq_true rfl) (Nat.le_refl _) (Nat.le_refl _) ?_
        refine ev_top (z_min (by constructor <;> omega) (by constructor <;> omega)) ?_
        refine ev_b bX0_putOnOthers_39_48 (lv' := [(5, .int (zI (min ((putTo B.wo g B.li x k).2) ((B.wo k) - (((putTo B.wo g B.li x k).1) k))))), (4, .int (nI (k))), (3, .int (zI ((putTo B.wo g B.li x k).2))), (0, .ref 0), (1, .int (nI (g))), (2, .int (zI (x)))]) (st' := [.int (nI (k)), .ref 3, .int (nI (k)), .ref 3]) (w2 := billW 0 ((B.wo, B.ha, (putTo B.wo g B.li x k).1, B.gw, B.wi, B.wr, B.un, B.lc) : BillN)) rfl ?_
        refine ev_iald_z (f := (putTo B.wo g B.li x k).1) dX0_putOnOthers_48 rfl (by omega) (by decide) ?_
        refine ev_b bX0_putOnOthers_49_51 (lv' := [(5, .int (zI (min ((putTo B.wo g B.li x k).2) ((B.wo k) - (((putTo B.wo g B.li x k).1) k))))), (4, .int (nI (k))), (3, .int (zI ((putTo B.wo g B.li x k).2))), (0, .ref 0), (1, .int (nI (g))), (2, .int (zI (x)))]) (st' := [.int (zI (min ((putTo B.wo g B.li x k).2) ((B.wo k) - (((putTo B.wo g B.li x k).1) k)))), .int (zI (((putTo B.wo g B.li x k).1) k)), .int (nI (k)), .ref 3]) (w2 := billW 0 ((B.wo, B.ha, (putTo B.wo g B.li x k).1, B.gw, B.wi, B.wr, B.un, B.lc) : BillN)) rfl ?_
        refine ev_iadd_z dX0_putOnOthers_51 ?_
        refine ev_iast_z (f := (putTo B.wo g B.li x k).1) dX0_putOnOthers_52 rfl (by omega) (by decide) ?_
        refine ev_eq (w' := billW 0 ((B.wo, B.ha, up ((putTo B.wo g B.li x k).1) k ((((putTo B.wo g B.li x k).1) k) + (min ((putTo B.wo g B.li x k).2) ((B.wo k) - (((putTo B.wo g B.li x k).1) k)))), B.gw, B.wi, B.wr, B.un, B.lc) : BillN)) rfl rfl rfl ?_
        refine ev_b bX0_putOnOthers_53_56 (lv' := [(5, .int (zI (min ((putTo B.wo g B.li x k).2) ((B.wo k) - (((putTo B.wo g B.li x k).1) k))))), (4, .int (nI (k))), (3, .int (zI ((putTo B.wo g B.li x k).2))), (0, .ref 0), (1, .int (nI (g))), (2, .int (zI (x)))]) (st' := [.int (zI (min ((putTo B.wo g B.li x k).2) ((B.wo k) - (((putTo B.wo g B.li x k).1) k)))), .int (zI ((putTo B.wo g B.li x k).2))]) (w2 := billW 0 ((B.wo, B.ha, up ((putTo B.wo g B.li x k).1) k ((((putTo B.wo g B.li x k).1) k) + (min ((putTo B.wo g B.li x k).2) ((B.wo k) - (((putTo B.wo g B.li x k).1) k)))), B.gw, B.wi, B.wr, B.un, B.lc) : BillN)) rfl ?_
        refine ev_isub_z dX0_putOnOthers_56 ?_
        refine ev_b bX0_putOnOthers_57_58 (lv' := [(3, .int (zI (((putTo B.wo g B.li x k).2) - (min ((putTo B.wo g B.li x k).2) ((B.wo k) - (((putTo B.wo g B.li x k).1) k)))))), (5, .int (zI (min ((putTo B.wo g B.li x k).2) ((B.wo k) - (((putTo B.wo g B.li x k).1) k))))), (4, .int (nI (k))), (0, .ref 0), (1, .int (nI (g))), (2, .int (zI (x)))]) (st' := []) (w2 := billW 0 ((B.wo, B.ha, up ((putTo B.wo g B.li x k).1) k ((((putTo B.wo g B.li x k).1) k) + (min ((putTo B.wo g B.li x k).2) ((B.wo k) - (((putTo B.wo g B.li x k).1) k)))), B.gw, B.wi, B.wr, B.un, B.lc) : BillN)) rfl ?_
        refine ev_iinc_n (x := k) (v := 1) dX0_putOnOthers_58 rfl (by decide) ?_
        refine ev_eq (lv' := [(4, .int (nI (k + 1))), (3, .int (zI (((putTo B.wo g B.li x k).2) - (min ((putTo B.wo g B.li x k).2) ((B.wo k) - (((putTo B.wo g B.li x k).1) k)))))), (5, .int (zI (min ((putTo B.wo g B.li x k).2) ((B.wo k) - (((putTo B.wo g B.li x k).1) k))))), (0, .ref 0), (1, .int (nI (g))), (2, .int (zI (x)))]) rfl rfl rfl ?_
        refine ev_b bX0_putOnOthers_61_5 (lv' := [(4, .int (nI (k + 1))), (3, .int (zI (((putTo B.wo g B.li x k).2) - (min ((putTo B.wo g B.li x k).2) ((B.wo k) - (((putTo B.wo g B.li x k).1) k)))))), (5, .int (zI (min ((putTo B.wo g B.li x k).2) ((B.wo k) - (((putTo B.wo g B.li x k).1) k))))), (0, .ref 0), (1, .int (nI (g))), (2, .int (zI (x)))]) (st' := []) (w2 := billW 0 ((B.wo, B.ha, up ((putTo B.wo g B.li x k).1) k ((((putTo B.wo g B.li x k).1) k) + (min ((putTo B.wo g B.li x k).2) ((B.wo k) - (((putTo B.wo g B.li x k).1) k)))), B.gw, B.wi, B.wr, B.un, B.lc) : BillN)) rfl ?_
        refine ev_pick (lv' := [(4, .int (nI (k + 1))), (3, .int (zI (((putTo B.wo g B.li x k).2) - (min ((putTo B.wo g B.li x k).2) ((B.wo k) - (((putTo B.wo g B.li x k).1) k)))))), (0, .ref 0), (1, .int (nI (g))), (2, .int (zI (x)))]) rfl ?_
        rw [show nI (k + 1) = nI ((k + 1)) from congrArg nI (by omega)]
        rw [show zI (((putTo B.wo g B.li x k).2) - (min ((putTo B.wo g B.li x k).2) ((B.wo k) - (((putTo B.wo g B.li x k).1) k)))) = zI ((putTo B.wo g B.li x (k + 1)).2) from congrArg zI (by rw [putTo_s]; first | rw [if_pos h17] | rw [if_neg h17])]
        refine ev_eq (lv' := [(4, .int (nI ((k + 1)))), (3, .int (zI ((putTo B.wo g B.li x (k + 1)).2))), (0, .ref 0), (1, .int (nI (g))), (2, .int (zI (x)))]) (w' := billW 0 ((B.wo, B.ha, (putTo B.wo g B.li x (k + 1)).1, B.gw, B.wi, B.wr, B.un, B.lc) : BillN)) rfl rfl (by rw [putTo_s]; first | rw [if_pos h17] | rw [if_neg h17]) ?_
        exact ih5 (k + 1) (by omega) 
  rw [show zI (x) = zI ((putTo B.wo g B.li x 0).2) from congrArg zI (by exact rfl)]
  exact L5 5 0 (by omega) 
