theorem bX0_excess_0_1 {l : Launch} {E : XE} : Snd l E mX0_excess 0 1 (xs [x_iload 2]) := Snd.cons (snd_iload_n (i := 2) dX0_excess_0 rfl) Snd.nil
theorem bX0_excess_4_7 {l : Launch} {E : XE} : Snd l E mX0_excess 4 7 (xs [x_iload 2, x_push (.int (nI 32))]) := Snd.cons (snd_iload_n (i := 2) dX0_excess_4 rfl) (Snd.cons (snd_bipush (v := nI 32) dX0_excess_5 (by decide)) Snd.nil)
theorem bX0_excess_12_17 {l : Launch} {E : XE} : Snd l E mX0_excess 12 17 (xs [x_aload 0, x_get 1 0, x_iload 2]) := Snd.cons (snd_aload_n (i := 0) dX0_excess_12 rfl) (Snd.cons (snd_get (ci := 1) (k := 0) dX0_excess_13 rfl inX0 (by decide) tw_102) (Snd.cons (snd_iload_n (i := 2) dX0_excess_16 rfl) Snd.nil))
theorem bX0_excess_20_22 {l : Launch} {E : XE} : Snd l E mX0_excess 20 22 (xs [x_aload 1, x_iload 2]) := Snd.cons (snd_aload_n (i := 1) dX0_excess_20 rfl) (Snd.cons (snd_iload_n (i := 2) dX0_excess_21 rfl) Snd.nil)
theorem bX0_excess_26_32 {l : Launch} {E : XE} : Snd l E mX0_excess 26 32 (xs [x_istore 3, x_aload 0, x_get 1 3, x_iload 2]) := Snd.cons (snd_istore_n (i := 3) dX0_excess_26 rfl (by decide)) (Snd.cons (snd_aload_n (i := 0) dX0_excess_27 rfl) (Snd.cons (snd_get (ci := 1) (k := 3) dX0_excess_28 rfl inX0 (by decide) tw_107) (Snd.cons (snd_iload_n (i := 2) dX0_excess_31 rfl) Snd.nil)))
theorem bX0_excess_33_36 {l : Launch} {E : XE} : Snd l E mX0_excess 33 36 (xs [x_aload 1, x_push (.int (nI 31))]) := Snd.cons (snd_aload_n (i := 1) dX0_excess_33 rfl) (Snd.cons (snd_bipush (v := nI 31) dX0_excess_34 (by decide)) Snd.nil)
theorem bX0_excess_40_41 {l : Launch} {E : XE} : Snd l E mX0_excess 40 41 (xs [x_iload 3]) := Snd.cons (snd_iload_n (i := 3) dX0_excess_40 rfl) Snd.nil
theorem bX0_excess_42_46 {l : Launch} {E : XE} : Snd l E mX0_excess 42 46 (xs [x_aload 0, x_get 1 6]) := Snd.cons (snd_aload_n (i := 0) dX0_excess_42 rfl) (Snd.cons (snd_get (ci := 1) (k := 6) dX0_excess_43 rfl inX0 (by decide) tw_112) Snd.nil)
set_option maxHeartbeats 4000000 in
set_option maxRecDepth 100000 in
theorem m_X0_excess_0 {l : Launch} {E : XE} (B : BillN) (g : Nat) (hg : g < 32) : MetE l E mX0_excess (2) 0 0 [.ref 0, .ref 1, .int (nI (g))] (billW 0 B) (fun r w' => r = some (.int (zI (excZ B B.wo g))) ∧ w' = billW 0 B) := by
  refine MetE.of (by decide +kernel) (Nat.le_of_ble_eq_true rfl) ?_
  refine ev_eq (lv' := [(0, .ref 0), (1, .ref 1), (2, .int (nI (g)))]) (st' := []) (w' := billW 0 B) rfl rfl rfl ?_
  refine ev_b bX0_excess_0_1 (lv' := [(0, .ref 0), (1, .ref 1), (2, .int (nI (g)))]) (st' := [.int (nI (g))]) (w2 := billW 0 B) rfl ?_
  refine ev_if_lt_n (tgt := 10) (by omega) dX0_excess_1 (by decide) (fun h1 => (by exfalso; omega)) (fun h1 => ?_)
  refine ev_b bX0_excess_4_7 (lv' := [(0, .ref 0), (1, .ref 1), (2, .int (nI (g)))]) (st' := [.int (nI (32)), .int (nI (g))]) (w2 := billW 0 B) rfl ?_
  refine ev_icmp_lt_n (tgt := 12) (by omega) (by decide) dX0_excess_7 (by decide) (fun h7 => ?_) (fun h7 => (by exfalso; omega))
  refine ev_b bX0_excess_12_17 (lv' := [(0, .ref 0), (1, .ref 1), (2, .int (nI (g)))]) (st' := [.int (nI (g)), .ref 1]) (w2 := billW 0 B) rfl ?_
  refine ev_callS (Yc := mX0_total) [1] dX0_excess_17 tw_607 kX0_total (m_X0_total B.wo g (by omega)) rfl (st := []) rfl (by decide) rfl (by decide) (Nat.le_of_ble_eq_true rfl) (Nat.le_refl _) (Nat.le_refl _) (fun r w' h => by obtain ⟨-, rfl⟩ := h; exact Nat.le_of_ble_eq_true rfl) ?_
  rintro _ _ ⟨rfl, rfl⟩
  refine ev_eq (lv' := [(0, .ref 0), (1, .ref 1), (2, .int (nI (g)))]) (st' := [.int (zI (totZ B.wo g 5))]) (w' := billW 0 B) rfl rfl rfl ?_
  refine ev_b bX0_excess_20_22 (lv' := [(0, .ref 0), (1, .ref 1), (2, .int (nI (g)))]) (st' := [.int (nI (g)), .ref 1, .int (zI (totZ B.wo g 5))]) (w2 := billW 0 B) rfl ?_
  refine ev_callS (Yc := mX0_total) [1] dX0_excess_22 tw_607 kX0_total (m_X0_total B.wo g (by omega)) rfl (st := [.int (zI (totZ B.wo g 5))]) rfl (by decide) rfl (by decide) (Nat.le_of_ble_eq_true rfl) (Nat.le_refl _) (Nat.le_refl _) (fun r w' h => by obtain ⟨-, rfl⟩ := h; exact Nat.le_of_ble_eq_true rfl) ?_
  rintro _ _ ⟨rfl, rfl⟩
  refine ev_eq (lv' := [(0, .ref 0), (1, .ref 1), (2, .int (nI (g)))]) (st' := [.int (zI (totZ B.wo g 5)), .int (zI (totZ B.wo g 5))]) (w' := billW 0 B) rfl rfl rfl ?_
  refine ev_isub_z dX0_excess_25 ?_
  refine ev_b bX0_excess_26_32 (lv' := [(3, .int (zI ((totZ B.wo g 5) - (totZ B.wo g 5)))), (0, .ref 0), (1, .ref 1), (2, .int (nI (g)))]) (st' := [.int (nI (g)), .ref 4]) (w2 := billW 0 B) rfl ?_
  refine ev_iald_z (f := B.gw) dX0_excess_32 rfl (by omega) (by decide) ?_
  refine ev_b bX0_excess_33_36 (lv' := [(3, .int (zI ((totZ B.wo g 5) - (totZ B.wo g 5)))), (0, .ref 0), (1, .ref 1), (2, .int (nI (g)))]) (st' := [.int (nI (31)), .ref 1, .int (zI (B.gw g))]) (w2 := billW 0 B) rfl ?_
  refine ev_callS (Yc := mX0_total) [1] dX0_excess_36 tw_607 kX0_total (m_X0_total B.wo 31 (by omega)) rfl (st := [.int (zI (B.gw g))]) rfl (by decide) rfl (by decide) (Nat.le_of_ble_eq_true rfl) (Nat.le_refl _) (Nat.le_refl _) (fun r w' h => by obtain ⟨-, rfl⟩ := h; exact Nat.le_of_ble_eq_true rfl) ?_
  rintro _ _ ⟨rfl, rfl⟩
  refine ev_eq (lv' := [(3, .int (zI ((totZ B.wo g 5) - (totZ B.wo g 5)))), (0, .ref 0), (1, .ref 1), (2, .int (nI (g)))]) (st' := [.int (zI (totZ B.wo 31 5)), .int (zI (B.gw g))]) (w' := billW 0 B) rfl rfl rfl ?_
  refine ev_isub_z dX0_excess_39 ?_
  refine ev_b bX0_excess_40_41 (lv' := [(3, .int (zI ((totZ B.wo g 5) - (totZ B.wo g 5)))), (0, .ref 0), (1, .ref 1), (2, .int (nI (g)))]) (st' := [.int (zI ((totZ B.wo g 5) - (totZ B.wo g 5))), .int (zI ((B.gw g) - (totZ B.wo 31 5)))]) (w2 := billW 0 B) rfl ?_
  refine ev_isub_z dX0_excess_41 ?_
  refine ev_b bX0_excess_42_46 (lv' := [(3, .int (zI ((totZ B.wo g 5) - (totZ B.wo g 5)))), (0, .ref 0), (1, .ref 1), (2, .int (nI (g)))]) (st' := [.int (nI (B.un)), .int (zI (((B.gw g) - (totZ B.wo 31 5)) - ((totZ B.wo g 5) - (totZ B.wo g 5))))]) (w2 := billW 0 B) rfl ?_
  refine ev_top (y := zI (((B.un : Nat) : Int))) (zI_nat _).symm ?_
  refine ev_isub_z dX0_excess_46 ?_
  exact ev_iret dX0_excess_47 rfl (Nat.le_of_ble_eq_true rfl) (Nat.le_refl _) (Nat.le_refl _) ⟨(congrArg (fun t => some (Value.int (zI t))) (show (((B.gw g) - (totZ B.wo 31 5)) - ((totZ B.wo g 5) - (totZ B.wo g 5))) - (((B.un : Nat) : Int)) = excZ B B.wo g from by exact rfl)), rfl⟩
theorem bX0_blocker_0_8 {l : Launch} {E : XE} : Snd l E mX0_blocker 0 8 (xs [x_push (.int (nI 0)), x_istore 2, x_push (.int (-9)), x_istore 3, x_push (.int (nI 0)), x_istore 4]) := Snd.cons (snd_iconst (v := nI 0) dX0_blocker_0 (by decide)) (Snd.cons (snd_istore_n (i := 2) dX0_blocker_1 rfl (by decide)) (Snd.cons (snd_bipush (v := -9) dX0_blocker_2 (by decide)) (Snd.cons (snd_istore_n (i := 3) dX0_blocker_4 rfl (by decide)) (Snd.cons (snd_iconst (v := nI 0) dX0_blocker_5 (by decide)) (Snd.cons (snd_istore dX0_blocker_6 (by decide)) Snd.nil)))))
theorem bX0_blocker_8_12 {l : Launch} {E : XE} : Snd l E mX0_blocker 8 12 (xs [x_iload 4, x_push (.int (nI 32))]) := Snd.cons (snd_iload dX0_blocker_8) (Snd.cons (snd_bipush (v := nI 32) dX0_blocker_10 (by decide)) Snd.nil)
theorem bX0_blocker_43_44 {l : Launch} {E : XE} : Snd l E mX0_blocker 43 44 (xs [x_iload 3]) := Snd.cons (snd_iload_n (i := 3) dX0_blocker_43 rfl) Snd.nil
theorem bX0_blocker_15_19 {l : Launch} {E : XE} : Snd l E mX0_blocker 15 19 (xs [x_aload 0, x_aload 1, x_iload 4]) := Snd.cons (snd_aload_n (i := 0) dX0_blocker_15 rfl) (Snd.cons (snd_aload_n (i := 1) dX0_blocker_16 rfl) (Snd.cons (snd_iload dX0_blocker_17) Snd.nil))
theorem bX0_blocker_22_23 {l : Launch} {E : XE} : Snd l E mX0_blocker 22 23 (xs [x_iload 2]) := Snd.cons (snd_iload_n (i := 2) dX0_blocker_22 rfl) Snd.nil
theorem bX0_blocker_40_8 {l : Launch} {E : XE} : Snd l E mX0_blocker 40 8 (xs [x_id]) := Snd.cons (snd_goto (tgt := 8) dX0_blocker_40 (by decide)) Snd.nil
theorem bX0_blocker_26_30 {l : Launch} {E : XE} : Snd l E mX0_blocker 26 30 (xs [x_aload 0, x_aload 1, x_iload 4]) := Snd.cons (snd_aload_n (i := 0) dX0_blocker_26 rfl) (Snd.cons (snd_aload_n (i := 1) dX0_blocker_27 rfl) (Snd.cons (snd_iload dX0_blocker_28) Snd.nil))
theorem bX0_blocker_33_37 {l : Launch} {E : XE} : Snd l E mX0_blocker 33 37 (xs [x_istore 2, x_iload 4, x_istore 3]) := Snd.cons (snd_istore_n (i := 2) dX0_blocker_33 rfl (by decide)) (Snd.cons (snd_iload dX0_blocker_34) (Snd.cons (snd_istore_n (i := 3) dX0_blocker_36 rfl (by decide)) Snd.nil))
set_option maxHeartbeats 4000000 in
set_option maxRecDepth 100000 in
theorem m_X0_blocker_0 {l : Launch} {E : XE} (B : BillN) (hB : BillB B B.wo) : MetE l E mX0_blocker (3) 0 0 [.ref 0, .ref 1] (billW 0 B) (fun r w' => r = some (.int (zI ((blkTo B B.wo 32).2))) ∧ w' = billW 0 B) := by
  refine MetE.of (by decide +kernel) (Nat.le_of_ble_eq_true rfl) ?_
  refine ev_eq (lv' := [(0, .ref 0), (1, .ref 1)]) (st' := []) (w' := billW 0 B) rfl rfl rfl ?_
  refine ev_b bX0_blocker_0_8 (lv' := [(4, .int (nI (0))), (3, .int (-9)), (2, .int (nI (0))), (0, .ref 0), (1, .ref 1)]) (st' := []) (w2 := billW 0 B) rfl ?_
  have L8 : ∀ (j_ k : Nat), k + j_ = 32 → Ev l E mX0_blocker (3) 0 0 (billW 0 B) (fun r w' => r = some (.int (zI ((blkTo B B.wo 32).2))) ∧ w' = billW 0 B) 0 0 8 [(4, .int (nI (k))), (2, .int (zI ((blkTo B B.wo k).1))), (3, .int (zI ((blkTo B B.wo k).2))), (0, .ref 0), (1, .ref 1)] [] (billW 0 B) := by
    intro j_
    induction j_ with
    | zero =>
      intro k hk8  
      replace hk8 : k = 32 := hk8
      subst hk8
      have hbk := blkTo_bnd hB 32 (by omega)
      refine ev_b bX0_blocker_8_12 (lv' := [(4, .int (nI (32))), (2, .int (zI ((blkTo B B.wo 32).1))), (3, .int (zI ((blkTo B B.wo 32).2))), (0, .ref 0), (1, .ref 1)]) (st' := [.int (nI (32)), .int (nI (32))]) (w2 := billW 0 B) rfl ?_
      refine ev_icmp_ge_n (tgt := 43) (by decide) (by decide) dX0_blocker_12 (by decide) (fun h12 => ?_) (fun h12 => (by exfalso; omega))
      refine ev_b bX0_blocker_43_44 (lv' := [(4, .int (nI (32))), (2, .int (zI ((blkTo B B.wo 32).1))), (3, .int (zI ((blkTo B B.wo 32).2))), (0, .ref 0), (1, .ref 1)]) (st' := [.int (zI ((blkTo B B.wo 32).2))]) (w2 := billW 0 B) rfl ?_
      exact ev_iret dX0_blocker_44 rfl (Nat.le_of_ble_eq_true rfl) (Nat.le_refl _) (Nat.le_refl _) ⟨rfl, rfl⟩
    | succ j_ ih8 =>
      intro k hk8  
      have hlt8 : k < 32 := by omega
      have hex := excZ_bnd hB hlt8
      have hbk := blkTo_bnd hB k (by omega)
      refine ev_b bX0_blocker_8_12 (lv' := [(4, .int (nI (k))), (2, .int (zI ((blkTo B B.wo k).1))), (3, .int (zI ((blkTo B B.wo k).2))), (0, .ref 0), (1, .ref 1)]) (st' := [.int (nI (32)), .int (nI (k))]) (w2 := billW 0 B) rfl ?_
      refine ev_icmp_ge_n (tgt := 43) (by omega) (by decide) dX0_blocker_12 (by decide) (fun h12 => (by exfalso; omega)) (fun h12 => ?_)
      refine ev_b bX0_blocker_15_19 (lv' := [(4, .int (nI (k))), (2, .int (zI ((blkTo B B.wo k).1))), (3, .int (zI ((blkTo B B.wo k).2))), (0, .ref 0), (1, .ref 1)]) (st' := [.int (nI (k)), .ref 1, .ref 0]) (w2 := billW 0 B) rfl ?_
      refine ev_callV (Yc := mX0_excess) [0, 1, 2, 3, 4] dX0_blocker_19 tw_729 kX0_excess (m_X0_excess_0 B k (by omega)) rfl (st := []) rfl rfl rfl (by decide) rfl (by decide) (Nat.le_of_ble_eq_true rfl) (Nat.le_refl _) (Nat.le_refl _) (fun r w' h => by obtain ⟨-, rfl⟩ := h; exact Nat.le_of_ble_eq_true rfl) ?_
      rintro _ _ ⟨rfl, rfl⟩
      refine ev_eq (lv' := [(4, .int (nI (k))), (2, .int (zI ((blkTo B B.wo k).1))), (3, .int (zI ((blkTo B B.wo k).2))), (0, .ref 0), (1, .ref 1)]) (st' := [.int (zI (excZ B B.wo k))]) (w' := billW 0 B) rfl rfl rfl ?_
      refine ev_b bX0_blocker_22_23 (lv' := [(4, .int (nI (k))), (2, .int (zI ((blkTo B B.wo k).1))), (3, .int (zI ((blkTo B B.wo k).2))), (0, .ref 0), (1, .ref 1)]) (st' := [.int (zI ((blkTo B B.wo k).1)), .int (zI (excZ B B.wo k))]) (w2 := billW 0 B) rfl ?_
      refine ev_icmp_le_z (tgt := 37) (by constructor <;> omega) (by constructor <;> omega) dX0_blocker_23 (by decide) (fun h23 => ?_) (fun h23 => ?_)
      · skip
        refine ev_iinc_n (x := k) (v := 1) dX0_blocker_37 rfl (by decide) ?_
        refine ev_eq (lv' := [(4, .int (nI (k + 1))), (2, .int (zI ((blkTo B B.wo k).1))), (3, .int (zI ((blkTo B B.wo k).2))), (0, .ref 0), (1, .ref 1)]) rfl rfl rfl ?_
        refine ev_b bX0_blocker_40_8 (lv' := [(4, .int (nI (k + 1))), (2, .int (zI ((blkTo B B.wo k).1))), (3, .int (zI ((blkTo B B.wo k).2))), (0, .ref 0), (1, .ref 1)]) (st' := []) (w2 := billW 0 B) rfl ?_
        rw [show nI (k + 1) = nI ((k + 1)) from congrArg nI (by omega)]
        rw [show zI ((blkTo B B.wo k).1) = zI ((blkTo B B.wo (k + 1)).1) from congrArg zI (by rw [blkTo_s]; first | rw [if_neg (Int.not_lt.mpr h23)] | rw [if_pos (Int.not_le.mp h23)])]
        rw [show zI ((blkTo B B.wo k).2) = zI ((blkTo B B.wo (k + 1)).2) from congrArg zI (by rw [blkTo_s]; first | rw [if_neg (Int.not_lt.mpr h23)] | rw [if_pos (Int.not_le.mp h23)])]
        exact ih8 (k + 1) (by omega) 
      · skip
        refine ev_b bX0_blocker_26_30 (lv' := [(4, .int (nI (k))), (2, .int (zI ((blkTo B B.wo k).1))), (3, .int (zI ((blkTo B B.wo k).2))), (0, .ref 0), (1, .ref 1)]) (st' := [.int (nI (k)), .ref 1, .ref 0]) (w2 := billW 0 B) rfl ?_
        refine ev_callV (Yc := mX0_excess) [0, 1, 2, 3, 4] dX0_blocker_30 tw_729 kX0_excess (m_X0_excess_0 B k (by omega)) rfl (st := []) rfl rfl rfl (by decide) rfl (by decide) (Nat.le_of_ble_eq_true rfl) (Nat.le_refl _) (Nat.le_refl _) (fun r w' h => by obtain ⟨-, rfl⟩ := h; exact Nat.le_of_ble_eq_true rfl) ?_
        rintro _ _ ⟨rfl, rfl⟩
        refine ev_eq (lv' := [(4, .int (nI (k))), (2, .int (zI ((blkTo B B.wo k).1))), (3, .int (zI ((blkTo B B.wo k).2))), (0, .ref 0), (1, .ref 1)]) (st' := [.int (zI (excZ B B.wo k))]) (w' := billW 0 B) rfl rfl rfl ?_
        refine ev_b bX0_blocker_33_37 (lv' := [(3, .int (nI (k))), (2, .int (zI (excZ B B.wo k))), (4, .int (nI (k))), (0, .ref 0), (1, .ref 1)]) (st' := []) (w2 := billW 0 B) rfl ?_
        refine ev_iinc_n (x := k) (v := 1) dX0_blocker_37 rfl (by decide) ?_
        refine ev_eq (lv' := [(4, .int (nI (k + 1))), (3, .int (nI (k))), (2, .int (zI (excZ B B.wo k))), (0, .ref 0), (1, .ref 1)]) rfl rfl rfl ?_
        refine ev_b bX0_blocker_40_8 (lv' := [(4, .int (nI (k + 1))), (3, .int (nI (k))), (2, .int (zI (excZ B B.wo k))), (0, .ref 0), (1, .ref 1)]) (st' := []) (w2 := billW 0 B) rfl ?_
        refine ev_pick (lv' := [(4, .int (nI (k + 1))), (2, .int (zI (excZ B B.wo k))), (3, .int (nI (k))), (0, .ref 0), (1, .ref 1)]) rfl ?_
        rw [show nI (k + 1) = nI ((k + 1)) from congrArg nI (by omega)]
        rw [show zI (excZ B B.wo k) = zI ((blkTo B B.wo (k + 1)).1) from congrArg zI (by rw [blkTo_s]; first | rw [if_neg (Int.not_lt.mpr h23)] | rw [if_pos (Int.not_le.mp h23)])]
        rw [show nI (k) = zI ((blkTo B B.wo (k + 1)).2) from by rw [← zI_nat]; exact congrArg zI (by rw [blkTo_s]; first | rw [if_neg (Int.not_lt.mpr h23)] | rw [if_pos (Int.not_le.mp h23)])]
        exact ih8 (k + 1) (by omega) 
  refine ev_pick (lv' := [(4, .int (nI (0))), (2, .int (nI (0))), (3, .int (-9)), (0, .ref 0), (1, .ref 1)]) rfl ?_
  rw [show nI (0) = zI ((blkTo B B.wo 0).1) from by rw [← zI_nat]; exact congrArg zI (by exact rfl)]
  rw [show (.int (-9) : Value) = .int (zI ((blkTo B B.wo 0).2)) from by exact rfl]
  exact L8 32 0 (by omega) 
set_option maxHeartbeats 4000000 in
set_option maxRecDepth 100000 in
theorem m_X0_excess_1 {l : Launch} {E : XE} (B : BillN) (g : Nat) (hg : g < 32) : MetE l E mX0_excess (2) 0 0 [.ref 0, .ref 2, .int (nI (g))] (billW 0 B) (fun r w' => r = some (.int (zI (excZ B B.ha g))) ∧ w' = billW 0 B) := by
  refine MetE.of (by decide +kernel) (Nat.le_of_ble_eq_true rfl) ?_
  refine ev_eq (lv' := [(0, .ref 0), (1, .ref 2), (2, .int (nI (g)))]) (st' := []) (w' := billW 0 B) rfl rfl rfl ?_
  refine ev_b bX0_excess_0_1 (lv' := [(0, .ref 0), (1, .ref 2), (2, .int (nI (g)))]) (st' := [.int (nI (g))]) (w2 := billW 0 B) rfl ?_
  refine ev_if_lt_n (tgt := 10) (by omega) dX0_excess_1 (by decide) (fun h1 => (by exfalso; omega)) (fun h1 => ?_)
  refine ev_b bX0_excess_4_7 (lv' := [(0, .ref 0), (1, .ref 2), (2, .int (nI (g)))]) (st' := [.int (nI (32)), .int (nI (g))]) (w2 := billW 0 B) rfl ?_
  refine ev_icmp_lt_n (tgt := 12) (by omega) (by decide) dX0_excess_7 (by decide) (fun h7 => ?_) (fun h7 => (by exfalso; omega))
  refine ev_b bX0_excess_12_17 (lv' := [(0, .ref 0), (1, .ref 2), (2, .int (nI (g)))]) (st' := [.int (nI (g)), .ref 1]) (w2 := billW 0 B) rfl ?_
  refine ev_callS (Yc := mX0_total) [1] dX0_excess_17 tw_607 kX0_total (m_X0_total B.wo g (by omega)) rfl (st := []) rfl (by decide) rfl (by decide) (Nat.le_of_ble_eq_true rfl) (Nat.le_refl _) (Nat.le_refl _) (fun r w' h => by obtain ⟨-, rfl⟩ := h; exact Nat.le_of_ble_eq_true rfl) ?_
  rintro _ _ ⟨rfl, rfl⟩
  refine ev_eq (lv' := [(0, .ref 0), (1, .ref 2), (2, .int (nI (g)))]) (st' := [.int (zI (totZ B.wo g 5))]) (w' := billW 0 B) rfl rfl rfl ?_
  refine ev_b bX0_excess_20_22 (lv' := [(0, .ref 0), (1, .ref 2), (2, .int (nI (g)))]) (st' := [.int (nI (g)), .ref 2, .int (zI (totZ B.wo g 5))]) (w2 := billW 0 B) rfl ?_
  refine ev_callS (Yc := mX0_total) [2] dX0_excess_22 tw_607 kX0_total (m_X0_total B.ha g (by omega)) rfl (st := [.int (zI (totZ B.wo g 5))]) rfl (by decide) rfl (by decide) (Nat.le_of_ble_eq_true rfl) (Nat.le_refl _) (Nat.le_refl _) (fun r w' h => by obtain ⟨-, rfl⟩ := h; exact Nat.le_of_ble_eq_true rfl) ?_
  rintro _ _ ⟨rfl, rfl⟩
  refine ev_eq (lv' := [(0, .ref 0), (1, .ref 2), (2, .int (nI (g)))]) (st' := [.int (zI (totZ B.ha g 5)), .int (zI (totZ B.wo g 5))]) (w' := billW 0 B) rfl rfl rfl ?_
  refine ev_isub_z dX0_excess_25 ?_
  refine ev_b bX0_excess_26_32 (lv' := [(3, .int (zI ((totZ B.wo g 5) - (totZ B.ha g 5)))), (0, .ref 0), (1, .ref 2), (2, .int (nI (g)))]) (st' := [.int (nI (g)), .ref 4]) (w2 := billW 0 B) rfl ?_
  refine ev_iald_z (f := B.gw) dX0_excess_32 rfl (by omega) (by decide) ?_
  refine ev_b bX0_excess_33_36 (lv' := [(3, .int (zI ((totZ B.wo g 5) - (totZ B.ha g 5)))), (0, .ref 0), (1, .ref 2), (2, .int (nI (g)))]) (st' := [.int (nI (31)), .ref 2, .int (zI (B.gw g))]) (w2 := billW 0 B) rfl ?_
  refine ev_callS (Yc := mX0_total) [2] dX0_excess_36 tw_607 kX0_total (m_X0_total B.ha 31 (by omega)) rfl (st := [.int (zI (B.gw g))]) rfl (by decide) rfl (by decide) (Nat.le_of_ble_eq_true rfl) (Nat.le_refl _) (Nat.le_refl _) (fun r w' h => by obtain ⟨-, rfl⟩ := h; exact Nat.le_of_ble_eq_true rfl) ?_
  rintro _ _ ⟨rfl, rfl⟩
  refine ev_eq (lv' := [(3, .int (zI ((totZ B.wo g 5) - (totZ B.ha g 5)))), (0, .ref 0), (1, .ref 2), (2, .int (nI (g)))]) (st' := [.int (zI (totZ B.ha 31 5)), .int (zI (B.gw g))]) (w' := billW 0 B) rfl rfl rfl ?_
  refine ev_isub_z dX0_excess_39 ?_
  refine ev_b bX0_excess_40_41 (lv' := [(3, .int (zI ((totZ B.wo g 5) - (totZ B.ha g 5)))), (0, .ref 0), (1, .ref 2), (2, .int (nI (g)))]) (st' := [.int (zI ((totZ B.wo g 5) - (totZ B.ha g 5))), .int (zI ((B.gw g) - (totZ B.ha 31 5)))]) (w2 := billW 0 B) rfl ?_
  refine ev_isub_z dX0_excess_41 ?_
  refine ev_b bX0_excess_42_46 (lv' := [(3, .int (zI ((totZ B.wo g 5) - (totZ B.ha g 5)))), (0, .ref 0), (1, .ref 2), (2, .int (nI (g)))]) (st' := [.int (nI (B.un)), .int (zI (((B.gw g) - (totZ B.ha 31 5)) - ((totZ B.wo g 5) - (totZ B.ha g 5))))]) (w2 := billW 0 B) rfl ?_
  refine ev_top (y := zI (((B.un : Nat) : Int))) (zI_nat _).symm ?_
  refine ev_isub_z dX0_excess_46 ?_
  exact ev_iret dX0_excess_47 rfl (Nat.le_of_ble_eq_true rfl) (Nat.le_refl _) (Nat.le_refl _) ⟨(congrArg (fun t => some (Value.int (zI t))) (show (((B.gw g) - (totZ B.ha 31 5)) - ((totZ B.wo g 5) - (totZ B.ha g 5))) - (((B.un : Nat) : Int)) = excZ B B.ha g from by exact rfl)), rfl⟩
set_option maxHeartbeats 4000000 in
set_option maxRecDepth 100000 in
theorem m_X0_blocker_1 {l : Launch} {E : XE} (B : BillN) (hB : BillB B B.ha) : MetE l E mX0_blocker (3) 0 0 [.ref 0, .ref 2] (billW 0 B) (fun r w' => r = some (.int (zI ((blkTo B B.ha 32).2))) ∧ w' = billW 0 B) := by
  refine MetE.of (by decide +kernel) (Nat.le_of_ble_eq_true rfl) ?_
  refine ev_eq (lv' := [(0, .ref 0), (1, .ref 2)]) (st' := []) (w' := billW 0 B) rfl rfl rfl ?_
  refine ev_b bX0_blocker_0_8 (lv' := [(4, .int (nI (0))), (3, .int (-9)), (2, .int (nI (0))), (0, .ref 0), (1, .ref 2)]) (st' := []) (w2 := billW 0 B) rfl ?_
  have L8 : ∀ (j_ k : Nat), k + j_ = 32 → Ev l E mX0_blocker (3) 0 0 (billW 0 B) (fun r w' => r = some (.int (zI ((blkTo B B.ha 32).2))) ∧ w' = billW 0 B) 0 0 8 [(4, .int (nI (k))), (2, .int (zI ((blkTo B B.ha k).1))), (3, .int (zI ((blkTo B B.ha k).2))), (0, .ref 0), (1, .ref 2)] [] (billW 0 B) := by
    intro j_
    induction j_ with
    | zero =>
      intro k hk8  
      replace hk8 : k = 32 := hk8
      subst hk8
      have hbk := blkTo_bnd hB 32 (by omega)
      refine ev_b bX0_blocker_8_12 (lv' := [(4, .int (nI (32))), (2, .int (zI ((blkTo B B.ha 32).1))), (3, .int (zI ((blkTo B B.ha 32).2))), (0, .ref 0), (1, .ref 2)]) (st' := [.int (nI (32)), .int (nI (32))]) (w2 := billW 0 B) rfl ?_
      refine ev_icmp_ge_n (tgt := 43) (by decide) (by decide) dX0_blocker_12 (by decide) (fun h12 => ?_) (fun h12 => (by exfalso; omega))
      refine ev_b bX0_blocker_43_44 (lv' := [(4, .int (nI (32))), (2, .int (zI ((blkTo B B.ha 32).1))), (3, .int (zI ((blkTo B B.ha 32).2))), (0, .ref 0), (1, .ref 2)]) (st' := [.int (zI ((blkTo B B.ha 32).2))]) (w2 := billW 0 B) rfl ?_
      exact ev_iret dX0_blocker_44 rfl (Nat.le_of_ble_eq_true rfl) (Nat.le_refl _) (Nat.le_refl _) ⟨rfl, rfl⟩
    | succ j_ ih8 =>
      intro k hk8  
      have hlt8 : k < 32 := by omega
      have hex := excZ_bnd hB hlt8
      have hbk := blkTo_bnd hB k (by omega)
      refine ev_b bX0_blocker_8_12 (lv' := [(4, .int (nI (k))), (2, .int (zI ((blkTo B B.ha k).1))), (3, .int (zI ((blkTo B B.ha k).2))), (0, .ref 0), (1, .ref 2)]) (st' := [.int (nI (32)), .int (nI (k))]) (w2 := billW 0 B) rfl ?_
      refine ev_icmp_ge_n (tgt := 43) (by omega) (by decide) dX0_blocker_12 (by decide) (fun h12 => (by exfalso; omega)) (fun h12 => ?_)
      refine ev_b bX0_blocker_15_19 (lv' := [(4, .int (nI (k))), (2, .int (zI ((blkTo B B.ha k).1))), (3, .int (zI ((blkTo B B.ha k).2))), (0, .ref 0), (1, .ref 2)]) (st' := [.int (nI (k)), .ref 2, .ref 0]) (w2 := billW 0 B) rfl ?_
      refine ev_callV (Yc := mX0_excess) [0, 1, 2, 3, 4] dX0_blocker_19 tw_729 kX0_excess (m_X0_excess_1 B k (by omega)) rfl (st := []) rfl rfl rfl (by decide) rfl (by decide) (Nat.le_of_ble_eq_true rfl) (Nat.le_refl _) (Nat.le_refl _) (fun r w' h => by obtain ⟨-, rfl⟩ := h; exact Nat.le_of_ble_eq_true rfl) ?_
      rintro _ _ ⟨rfl, rfl⟩
      refine ev_eq (lv' := [(4, .int (nI (k))), (2, .int (zI ((blkTo B B.ha k).1))), (3, .int (zI ((blkTo B B.ha k).2))), (0, .ref 0), (1, .ref 2)]) (st' := [.int (zI (excZ B B.ha k))]) (w' := billW 0 B) rfl rfl rfl ?_
      refine ev_b bX0_blocker_22_23 (lv' := [(4, .int (nI (k))), (2, .int (zI ((blkTo B B.ha k).1))), (3, .int (zI ((blkTo B B.ha k).2))), (0, .ref 0), (1, .ref 2)]) (st' := [.int (zI ((blkTo B B.ha k).1)), .int (zI (excZ B B.ha k))]) (w2 := billW 0 B) rfl ?_
      refine ev_icmp_le_z (tgt := 37) (by constructor <;> omega) (by constructor <;> omega) dX0_blocker_23 (by decide) (fun h23 => ?_) (fun h23 => ?_)
      · skip
        refine ev_iinc_n (x := k) (v := 1) dX0_blocker_37 rfl (by decide) ?_
        refine ev_eq (lv' := [(4, .int (nI (k + 1))), (2, .int (zI ((blkTo B B.ha k).1))), (3, .int (zI ((blkTo B B.ha k).2))), (0, .ref 0), (1, .ref 2)]) rfl rfl rfl ?_
        refine ev_b bX0_blocker_40_8 (lv' := [(4, .int (nI (k + 1))), (2, .int (zI ((blkTo B B.ha k).1))), (3, .int (zI ((blkTo B B.ha k).2))), (0, .ref 0), (1, .ref 2)]) (st' := []) (w2 := billW 0 B) rfl ?_
        rw [show nI (k + 1) = nI ((k + 1)) from congrArg nI (by omega)]
        rw [show zI ((blkTo B B.ha k).1) = zI ((blkTo B B.ha (k + 1)).1) from congrArg zI (by rw [blkTo_s]; first | rw [if_neg (Int.not_lt.mpr h23)] | rw [if_pos (Int.not_le.mp h23)])]
        rw [show zI ((blkTo B B.ha k).2) = zI ((blkTo B B.ha (k + 1)).2) from congrArg zI (by rw [blkTo_s]; first | rw [if_neg (Int.not_lt.mpr h23)] | rw [if_pos (Int.not_le.mp h23)])]
        exact ih8 (k + 1) (by omega) 
      · skip
        refine ev_b bX0_blocker_26_30 (lv' := [(4, .int (nI (k))), (2, .int (zI ((blkTo B B.ha k).1))), (3, .int (zI ((blkTo B B.ha k).2))), (0, .ref 0), (1, .ref 2)]) (st' := [.int (nI (k)), .ref 2, .ref 0]) (w2 := billW 0 B) rfl ?_
        refine ev_callV (Yc := mX0_excess) [0, 1, 2, 3, 4] dX0_blocker_30 tw_729 kX0_excess (m_X0_excess_1 B k (by omega)) rfl (st := []) rfl rfl rfl (by decide) rfl (by decide) (Nat.le_of_ble_eq_true rfl) (Nat.le_refl _) (Nat.le_refl _) (fun r w' h => by obtain ⟨-, rfl⟩ := h; exact Nat.le_of_ble_eq_true rfl) ?_
        rintro _ _ ⟨rfl, rfl⟩
        refine ev_eq (lv' := [(4, .int (nI (k))), (2, .int (zI ((blkTo B B.ha k).1))), (3, .int (zI ((blkTo B B.ha k).2))), (0, .ref 0), (1, .ref 2)]) (st' := [.int (zI (excZ B B.ha k))]) (w' := billW 0 B) rfl rfl rfl ?_
        refine ev_b bX0_blocker_33_37 (lv' := [(3, .int (nI (k))), (2, .int (zI (excZ B B.ha k))), (4, .int (nI (k))), (0, .ref 0), (1, .ref 2)]) (st' := []) (w2 := billW 0 B) rfl ?_
        refine ev_iinc_n (x := k) (v := 1) dX0_blocker_37 rfl (by decide) ?_
        refine ev_eq (lv' := [(4, .int (nI (k + 1))), (3, .int (nI (k))), (2, .int (zI (excZ B B.ha k))), (0, .ref 0), (1, .ref 2)]) rfl rfl rfl ?_
        refine ev_b bX0_blocker_40_8 (lv' := [(4, .int (nI (k + 1))), (3, .int (nI (k))), (2, .int (zI (excZ B B.ha k))), (0, .ref 0), (1, .ref 2)]) (st' := []) (w2 := billW 0 B) rfl ?_
        refine ev_pick (lv' := [(4, .int (nI (k + 1))), (2, .int (zI (excZ B B.ha k))), (3, .int (nI (k))), (0, .ref 0), (1, .ref 2)]) rfl ?_
        rw [show nI (k + 1) = nI ((k + 1)) from congrArg nI (by omega)]
        rw [show zI (excZ B B.ha k) = zI ((blkTo B B.ha (k + 1)).1) from congrArg zI (by rw [blkTo_s]; first | rw [if_neg (Int.not_lt.mpr h23)] | rw [if_pos (Int.not_le.mp h23)])]
        rw [show nI (k) = zI ((blkTo B B.ha (k + 1)).2) from by rw [← zI_nat]; exact congrArg zI (by rw [blkTo_s]; first | rw [if_neg (Int.not_lt.mpr h23)] | rw [if_pos (Int.not_le.mp h23)])]
        exact ih8 (k + 1) (by omega) 
  refine ev_pick (lv' := [(4, .int (nI (0))), (2, .int (nI (0))), (3, .int (-9)), (0, .ref 0), (1, .ref 2)]) rfl ?_
  rw [show nI (0) = zI ((blkTo B B.ha 0).1) from by rw [← zI_nat]; exact congrArg zI (by exact rfl)]
  rw [show (.int (-9) : Value) = .int (zI ((blkTo B B.ha 0).2)) from by exact rfl]
  exact L8 32 0 (by omega) 
set_option maxHeartbeats 4000000 in
set_option maxRecDepth 100000 in
theorem m_X0_excess_2 {l : Launch} {E : XE} (B : BillN) (g : Nat) (hg : g < 32) : MetE l E mX0_excess (2) 0 0 [.ref 0, .ref 3, .int (nI (g))] (billW 0 B) (fun r w' => r = some (.int (zI (excZ B B.li g))) ∧ w' = billW 0 B) := by
  refine MetE.of (by decide +kernel) (Nat.le_of_ble_eq_true rfl) ?_
  refine ev_eq (lv' := [(0, .ref 0), (1, .ref 3), (2, .int (nI (g)))]) (st' := []) (w' := billW 0 B) rfl rfl rfl ?_
  refine ev_b bX0_excess_0_1 (lv' := [(0, .ref 0), (1, .ref 3), (2, .int (nI (g)))]) (st' := [.int (nI (g))]) (w2 := billW 0 B) rfl ?_
  refine ev_if_lt_n (tgt := 10) (by omega) dX0_excess_1 (by decide) (fun h1 => (by exfalso; omega)) (fun h1 => ?_)
  refine ev_b bX0_excess_4_7 (lv' := [(0, .ref 0), (1, .ref 3), (2, .int (nI (g)))]) (st' := [.int (nI (32)), .int (nI (g))]) (w2 := billW 0 B) rfl ?_
  refine ev_icmp_lt_n (tgt := 12) (by omega) (by decide) dX0_excess_7 (by decide) (fun h7 => ?_) (fun h7 => (by exfalso; omega))
  refine ev_b bX0_excess_12_17 (lv' := [(0, .ref 0), (1, .ref 3), (2, .int (nI (g)))]) (st' := [.int (nI (g)), .ref 1]) (w2 := billW 0 B) rfl ?_
  refine ev_callS (Yc := mX0_total) [1] dX0_excess_17 tw_607 kX0_total (m_X0_total B.wo g (by omega)) rfl (st := []) rfl (by decide) rfl (by decide) (Nat.le_of_ble_eq_true rfl) (Nat.le_refl _) (Nat.le_refl _) (fun r w' h => by obtain ⟨-, rfl⟩ := h; exact Nat.le_of_ble_eq_true rfl) ?_
  rintro _ _ ⟨rfl, rfl⟩
  refine ev_eq (lv' := [(0, .ref 0), (1, .ref 3), (2, .int (nI (g)))]) (st' := [.int (zI (totZ B.wo g 5))]) (w' := billW 0 B) rfl rfl rfl ?_
  refine ev_b bX0_excess_20_22 (lv' := [(0, .ref 0), (1, .ref 3), (2, .int (nI (g)))]) (st' := [.int (nI (g)), .ref 3, .int (zI (totZ B.wo g 5))]) (w2 := billW 0 B) rfl ?_
  refine ev_callS (Yc := mX0_total) [3] dX0_excess_22 tw_607 kX0_total (m_X0_total B.li g (by omega)) rfl (st := [.int (zI (totZ B.wo g 5))]) rfl (by decide) rfl (by decide) (Nat.le_of_ble_eq_true rfl) (Nat.le_refl _) (Nat.le_refl _) (fun r w' h => by obtain ⟨-, rfl⟩ := h; exact Nat.le_of_ble_eq_true rfl) ?_
  rintro _ _ ⟨rfl, rfl⟩
  refine ev_eq (lv' := [(0, .ref 0), (1, .ref 3), (2, .int (nI (g)))]) (st' := [.int (zI (totZ B.li g 5)), .int (zI (totZ B.wo g 5))]) (w' := billW 0 B) rfl rfl rfl ?_
  refine ev_isub_z dX0_excess_25 ?_
  refine ev_b bX0_excess_26_32 (lv' := [(3, .int (zI ((totZ B.wo g 5) - (totZ B.li g 5)))), (0, .ref 0), (1, .ref 3), (2, .int (nI (g)))]) (st' := [.int (nI (g)), .ref 4]) (w2 := billW 0 B) rfl ?_
  refine ev_iald_z (f := B.gw) dX0_excess_32 rfl (by omega) (by decide) ?_
  refine ev_b bX0_excess_33_36 (lv' := [(3, .int (zI ((totZ B.wo g 5) - (totZ B.li g 5)))), (0, .ref 0), (1, .ref 3), (2, .int (nI (g)))]) (st' := [.int (nI (31)), .ref 3, .int (zI (B.gw g))]) (w2 := billW 0 B) rfl ?_
  refine ev_callS (Yc := mX0_total) [3] dX0_excess_36 tw_607 kX0_total (m_X0_total B.li 31 (by omega)) rfl (st := [.int (zI (B.gw g))]) rfl (by decide) rfl (by decide) (Nat.le_of_ble_eq_true rfl) (Nat.le_refl _) (Nat.le_refl _) (fun r w' h => by obtain ⟨-, rfl⟩ := h; exact Nat.le_of_ble_eq_true rfl) ?_
  rintro _ _ ⟨rfl, rfl⟩
  refine ev_eq (lv' := [(3, .int (zI ((totZ B.wo g 5) - (totZ B.li g 5)))), (0, .ref 0), (1, .ref 3), (2, .int (nI (g)))]) (st' := [.int (zI (totZ B.li 31 5)), .int (zI (B.gw g))]) (w' := billW 0 B) rfl rfl rfl ?_
  refine ev_isub_z dX0_excess_39 ?_
  refine ev_b bX0_excess_40_41 (lv' := [(3, .int (zI ((totZ B.wo g 5) - (totZ B.li g 5)))), (0, .ref 0), (1, .ref 3), (2, .int (nI (g)))]) (st' := [.int (zI ((totZ B.wo g 5) - (totZ B.li g 5))), .int (zI ((B.gw g) - (totZ B.li 31 5)))]) (w2 := billW 0 B) rfl ?_
  refine ev_isub_z dX0_excess_41 ?_
  refine ev_b bX0_excess_42_46 (lv' := [(3, .int (zI ((totZ B.wo g 5) - (totZ B.li g 5)))), (0, .ref 0), (1, .ref 3), (2, .int (nI (g)))]) (st' := [.int (nI (B.un)), .int (zI (((B.gw g) - (totZ B.li 31 5)) - ((totZ B.wo g 5) - (totZ B.li g 5))))]) (w2 := billW 0 B) rfl ?_
  refine ev_top (y := zI (((B.un : Nat) : Int))) (zI_nat _).symm ?_
  refine ev_isub_z dX0_excess_46 ?_
  exact ev_iret dX0_excess_47 rfl (Nat.le_of_ble_eq_true rfl) (Nat.le_refl _) (Nat.le_refl _) ⟨(congrArg (fun t => some (Value.int (zI t))) (show (((B.gw g) - (totZ B.li 31 5)) - ((totZ B.wo g 5) - (totZ B.li g 5))) - (((B.un : Nat) : Int)) = excZ B B.li g from by exact rfl)), rfl⟩
set_option maxHeartbeats 4000000 in
set_option maxRecDepth 100000 in
theorem m_X0_blocker_2 {l : Launch} {E : XE} (B : BillN) (hB : BillB B B.li) : MetE l E mX0_blocker (3) 0 0 [.ref 0, .ref 3] (billW 0 B) (fun r w' => r = some (.int (zI ((blkTo B B.li 32).2))) ∧ w' = billW 0 B) := by
  refine MetE.of (by decide +kernel) (Nat.le_of_ble_eq_true rfl) ?_
  refine ev_eq (lv' := [(0, .ref 0), (1, .ref 3)]) (st' := []) (w' := billW 0 B) rfl rfl rfl ?_
  refine ev_b bX0_blocker_0_8 (lv' := [(4, .int (nI (0))), (3, .int (-9)), (2, .int (nI (0))), (0, .ref 0), (1, .ref 3)]) (st' := []) (w2 := billW 0 B) rfl ?_
  have L8 : ∀ (j_ k : Nat), k + j_ = 32 → Ev l E mX0_blocker (3) 0 0 (billW 0 B) (fun r w' => r = some (.int (zI ((blkTo B B.li 32).2))) ∧ w' = billW 0 B) 0 0 8 [(4, .int (nI (k))), (2, .int (zI ((blkTo B B.li k).1))), (3, .int (zI ((blkTo B B.li k).2))), (0, .ref 0), (1, .ref 3)] [] (billW 0 B) := by
    intro j_
    induction j_ with
    | zero =>
      intro k hk8  
      replace hk8 : k = 32 := hk8
      subst hk8
      have hbk := blkTo_bnd hB 32 (by omega)
      refine ev_b bX0_blocker_8_12 (lv' := [(4, .int (nI (32))), (2, .int (zI ((blkTo B B.li 32).1))), (3, .int (zI ((blkTo B B.li 32).2))), (0, .ref 0), (1, .ref 3)]) (st' := [.int (nI (32)), .int (nI (32))]) (w2 := billW 0 B) rfl ?_
      refine ev_icmp_ge_n (tgt := 43) (by decide) (by decide) dX0_blocker_12 (by decide) (fun h12 => ?_) (fun h12 => (by exfalso; omega))
      refine ev_b bX0_blocker_43_44 (lv' := [(4, .int (nI (32))), (2, .int (zI ((blkTo B B.li 32).1))), (3, .int (zI ((blkTo B B.li 32).2))), (0, .ref 0), (1, .ref 3)]) (st' := [.int (zI ((blkTo B B.li 32).2))]) (w2 := billW 0 B) rfl ?_
      exact ev_iret dX0_blocker_44 rfl (Nat.le_of_ble_eq_true rfl) (Nat.le_refl _) (Nat.le_refl _) ⟨rfl, rfl⟩
    | succ j_ ih8 =>
      intro k hk8  
      have hlt8 : k < 32 := by omega
      have hex := excZ_bnd hB hlt8
      have hbk := blkTo_bnd hB k (by omega)
      refine ev_b bX0_blocker_8_12 (lv' := [(4, .int (nI (k))), (2, .int (zI ((blkTo B B.li k).1))), (3, .int (zI ((blkTo B B.li k).2))), (0, .ref 0), (1, .ref 3)]) (st' := [.int (nI (32)), .int (nI (k))]) (w2 := billW 0 B) rfl ?_
      refine ev_icmp_ge_n (tgt := 43) (by omega) (by decide) dX0_blocker_12 (by decide) (fun h12 => (by exfalso; omega)) (fun h12 => ?_)
      refine ev_b bX0_blocker_15_19 (lv' := [(4, .int (nI (k))), (2, .int (zI ((blkTo B B.li k).1))), (3, .int (zI ((blkTo B B.li k).2))), (0, .ref 0), (1, .ref 3)]) (st' := [.int (nI (k)), .ref 3, .ref 0]) (w2 := billW 0 B) rfl ?_
      refine ev_callV (Yc := mX0_excess) [0, 1, 2, 3, 4] dX0_blocker_19 tw_729 kX0_excess (m_X0_excess_2 B k (by omega)) rfl (st := []) rfl rfl rfl (by decide) rfl (by decide) (Nat.le_of_ble_eq_true rfl) (Nat.le_refl _) (Nat.le_refl _) (fun r w' h => by obtain ⟨-, rfl⟩ := h; exact Nat.le_of_ble_eq_true rfl) ?_
      rintro _ _ ⟨rfl, rfl⟩
      refine ev_eq (lv' := [(4, .int (nI (k))), (2, .int (zI ((blkTo B B.li k).1))), (3, .int (zI ((blkTo B B.li k).2))), (0, .ref 0), (1, .ref 3)]) (st' := [.int (zI (excZ B B.li k))]) (w' := billW 0 B) rfl rfl rfl ?_
      refine ev_b bX0_blocker_22_23 (lv' := [(4, .int (nI (k))), (2, .int (zI ((blkTo B B.li k).1))), (3, .int (zI ((blkTo B B.li k).2))), (0, .ref 0), (1, .ref 3)]) (st' := [.int (zI ((blkTo B B.li k).1)), .int (zI (excZ B B.li k))]) (w2 := billW 0 B) rfl ?_
      refine ev_icmp_le_z (tgt := 37) (by constructor <;> omega) (by constructor <;> omega) dX0_blocker_23 (by decide) (fun h23 => ?_) (fun h23 => ?_)
      · skip
        refine ev_iinc_n (x := k) (v := 1) dX0_blocker_37 rfl (by decide) ?_
        refine ev_eq (lv' := [(4, .int (nI (k + 1))), (2, .int (zI ((blkTo B B.li k).1))), (3, .int (zI ((blkTo B B.li k).2))), (0, .ref 0), (1, .ref 3)]) rfl rfl rfl ?_
        refine ev_b bX0_blocker_40_8 (lv' := [(4, .int (nI (k + 1))), (2, .int (zI ((blkTo B B.li k).1))), (3, .int (zI ((blkTo B B.li k).2))), (0, .ref 0), (1, .ref 3)]) (st' := []) (w2 := billW 0 B) rfl ?_
        rw [show nI (k + 1) = nI ((k + 1)) from congrArg nI (by omega)]
        rw [show zI ((blkTo B B.li k).1) = zI ((blkTo B B.li (k + 1)).1) from congrArg zI (by rw [blkTo_s]; first | rw [if_neg (Int.not_lt.mpr h23)] | rw [if_pos (Int.not_le.mp h23)])]
        rw [show zI ((blkTo B B.li k).2) = zI ((blkTo B B.li (k + 1)).2) from congrArg zI (by rw [blkTo_s]; first | rw [if_neg (Int.not_lt.mpr h23)] | rw [if_pos (Int.not_le.mp h23)])]
        exact ih8 (k + 1) (by omega) 
      · skip
        refine ev_b bX0_blocker_26_30 (lv' := [(4, .int (nI (k))), (2, .int (zI ((blkTo B B.li k).1))), (3, .int (zI ((blkTo B B.li k).2))), (0, .ref 0), (1, .ref 3)]) (st' := [.int (nI (k)), .ref 3, .ref 0]) (w2 := billW 0 B) rfl ?_
        refine ev_callV (Yc := mX0_excess) [0, 1, 2, 3, 4] dX0_blocker_30 tw_729 kX0_excess (m_X0_excess_2 B k (by omega)) rfl (st := []) rfl rfl rfl (by decide) rfl (by decide) (Nat.le_of_ble_eq_true rfl) (Nat.le_refl _) (Nat.le_refl _) (fun r w' h => by obtain ⟨-, rfl⟩ := h; exact Nat.le_of_ble_eq_true rfl) ?_
        rintro _ _ ⟨rfl, rfl⟩
        refine ev_eq (lv' := [(4, .int (nI (k))), (2, .int (zI ((blkTo B B.li k).1))), (3, .int (zI ((blkTo B B.li k).2))), (0, .ref 0), (1, .ref 3)]) (st' := [.int (zI (excZ B B.li k))]) (w' := billW 0 B) rfl rfl rfl ?_
        refine ev_b bX0_blocker_33_37 (lv' := [(3, .int (nI (k))), (2, .int (zI (excZ B B.li k))), (4, .int (nI (k))), (0, .ref 0), (1, .ref 3)]) (st' := []) (w2 := billW 0 B) rfl ?_
        refine ev_iinc_n (x := k) (v := 1) dX0_blocker_37 rfl (by decide) ?_
        refine ev_eq (lv' := [(4, .int (nI (k + 1))), (3, .int (nI (k))), (2, .int (zI (excZ B B.li k))), (0, .ref 0), (1, .ref 3)]) rfl rfl rfl ?_
        refine ev_b bX0_blocker_40_8 (lv' := [(4, .int (nI (k + 1))), (3, .int (nI (k))), (2, .int (zI (excZ B B.li k))), (0, .ref 0), (1, .ref 3)]) (st' := []) (w2 := billW 0 B) rfl ?_
        refine ev_pick (lv' := [(4, .int (nI (k + 1))), (2, .int (zI (excZ B B.li k))), (3, .int (nI (k))), (0, .ref 0), (1, .ref 3)]) rfl ?_
        rw [show nI (k + 1) = nI ((k + 1)) from congrArg nI (by omega)]
        rw [show zI (excZ B B.li k) = zI ((blkTo B B.li (k + 1)).1) from congrArg zI (by rw [blkTo_s]; first | rw [if_neg (Int.not_lt.mpr h23)] | rw [if_pos (Int.not_le.mp h23)])]
        rw [show nI (k) = zI ((blkTo B B.li (k + 1)).2) from by rw [← zI_nat]; exact congrArg zI (by rw [blkTo_s]; first | rw [if_neg (Int.not_lt.mpr h23)] | rw [if_pos (Int.not_le.mp h23)])]
        exact ih8 (k + 1) (by omega) 
  refine ev_pick (lv' := [(4, .int (nI (0))), (2, .int (nI (0))), (3, .int (-9)), (0, .ref 0), (1, .ref 3)]) rfl ?_
  rw [show nI (0) = zI ((blkTo B B.li 0).1) from by rw [← zI_nat]; exact congrArg zI (by exact rfl)]
  rw [show (.int (-9) : Value) = .int (zI ((blkTo B B.li 0).2)) from by exact rfl]
  exact L8 32 0 (by omega) 
