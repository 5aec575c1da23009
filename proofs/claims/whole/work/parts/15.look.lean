theorem hw_Sea0_Sale3__3 {x0 : SeaN} {x1 : SaleN} : ([3, 4, 5, 6, 7, 8, 9, 10] : List Nat).map (fun i => (seaW 0 x0 ++ saleW 3 x1)[i]?) = (saleW 0 x1).map (fun e => some (xr ([3, 4, 5, 6, 7, 8, 9, 10] : List Nat) (seaW 0 x0 ++ saleW 3 x1).length e)) := rfl
theorem xp_Sea0_Sale3__3 {x0 : SeaN} {x1 : SaleN} {y0 : SaleN} : xput ([3, 4, 5, 6, 7, 8, 9, 10] : List Nat) (seaW 0 x0 ++ saleW 3 x1).length (seaW 0 x0 ++ saleW 3 x1) ([3, 4, 5, 6, 7, 8, 9, 10] : List Nat) (saleW 0 y0) = seaW 0 x0 ++ saleW 3 y0 := by
  have e0 : xput ([3, 4, 5, 6, 7, 8, 9, 10] : List Nat) (seaW 0 x0 ++ saleW 3 x1).length (seaW 0 x0 ++ saleW 3 x1) ([3, 4, 5, 6, 7, 8, 9, 10] : List Nat) (saleW 0 y0) = seaW 0 x0 ++ saleW 3 y0 := xput_blk (seaW 0 x0) (saleW 3 x1) ([]) (saleW 0 y0) rfl
  exact e0
theorem hw_Sea0_Sale3__0 {x0 : SeaN} {x1 : SaleN} : ([0, 1, 2] : List Nat).map (fun i => (seaW 0 x0 ++ saleW 3 x1)[i]?) = (seaW 0 x0).map (fun e => some (xr ([0, 1, 2] : List Nat) (seaW 0 x0 ++ saleW 3 x1).length e)) := rfl
theorem xp_Sea0_Sale3__0 {x0 : SeaN} {x1 : SaleN} {y0 : SeaN} : xput ([0, 1, 2] : List Nat) (seaW 0 x0 ++ saleW 3 x1).length (seaW 0 x0 ++ saleW 3 x1) ([0, 1, 2] : List Nat) (seaW 0 y0) = seaW 0 y0 ++ saleW 3 x1 := by
  have e0 : xput ([0, 1, 2] : List Nat) (seaW 0 x0 ++ saleW 3 x1).length (seaW 0 x0 ++ saleW 3 x1) ([0, 1, 2] : List Nat) (seaW 0 y0) = seaW 0 y0 ++ saleW 3 x1 := xput_blk ([]) (seaW 0 x0) (saleW 3 x1) (seaW 0 y0) rfl
  exact e0
theorem bX5_lineUp_0_7 {l : Launch} {E : XE} : Snd l E mX5_lineUp 0 7 (xs [x_aload 0, x_push (.int (nI 0)), x_puti 6 2, x_push (.int (nI 0)), x_istore 2]) := Snd.cons (snd_aload_n (i := 0) dX5_lineUp_0 rfl) (Snd.cons (snd_iconst (v := nI 0) dX5_lineUp_1 (by decide)) (Snd.cons (snd_puti (ci := 6) (k := 2) dX5_lineUp_2 rfl inX5 tyX5_ok nmX5 (by decide) tw_140 rfl rfl) (Snd.cons (snd_iconst (v := nI 0) dX5_lineUp_5 (by decide)) (Snd.cons (snd_istore_n (i := 2) dX5_lineUp_6 rfl (by decide)) Snd.nil))))
theorem bX5_lineUp_7_12 {l : Launch} {E : XE} : Snd l E mX5_lineUp 7 12 (xs [x_iload 2, x_aload 1, x_get 4 7]) := Snd.cons (snd_iload_n (i := 2) dX5_lineUp_7 rfl) (Snd.cons (snd_aload_n (i := 1) dX5_lineUp_8 rfl) (Snd.cons (snd_getN (ci := 4) (k := 7) dX5_lineUp_9 rfl inX3 (by decide) tn_42) Snd.nil))
theorem bX5_lineUp_15_18 {l : Launch} {E : XE} : Snd l E mX5_lineUp 15 18 (xs [x_iload 2, x_push (.int (nI 10))]) := Snd.cons (snd_iload_n (i := 2) dX5_lineUp_15 rfl) (Snd.cons (snd_bipush (v := nI 10) dX5_lineUp_16 (by decide)) Snd.nil)
theorem bX5_lineUp_21_23 {l : Launch} {E : XE} : Snd l E mX5_lineUp 21 23 (xs [x_aload 1, x_iload 2]) := Snd.cons (snd_aload_n (i := 1) dX5_lineUp_21 rfl) (Snd.cons (snd_iload_n (i := 2) dX5_lineUp_22 rfl) Snd.nil)
theorem bX5_lineUp_29_36 {l : Launch} {E : XE} : Snd l E mX5_lineUp 29 36 (xs [x_istore 3, x_aload 0, x_get 6 0, x_iload 2, x_iload 3]) := Snd.cons (snd_istore_n (i := 3) dX5_lineUp_29 rfl (by decide)) (Snd.cons (snd_aload_n (i := 0) dX5_lineUp_30 rfl) (Snd.cons (snd_get (ci := 6) (k := 0) dX5_lineUp_31 rfl inX5 (by decide) tw_138) (Snd.cons (snd_iload_n (i := 2) dX5_lineUp_34 rfl) (Snd.cons (snd_iload_n (i := 3) dX5_lineUp_35 rfl) Snd.nil))))
theorem bX5_lineUp_43_47 {l : Launch} {E : XE} : Snd l E mX5_lineUp 43 47 (xs [x_push (.int (nI 60)), x_aload 1, x_iload 2]) := Snd.cons (snd_bipush (v := nI 60) dX5_lineUp_43 (by decide)) (Snd.cons (snd_aload_n (i := 1) dX5_lineUp_45 rfl) (Snd.cons (snd_iload_n (i := 2) dX5_lineUp_46 rfl) Snd.nil))
theorem bX5_lineUp_51_52 {l : Launch} {E : XE} : Snd l E mX5_lineUp 51 52 (xs [x_iload 3]) := Snd.cons (snd_iload_n (i := 3) dX5_lineUp_51 rfl) Snd.nil
theorem bX5_lineUp_54_59 {l : Launch} {E : XE} : Snd l E mX5_lineUp 54 59 (xs [x_aload 1, x_get 4 8, x_iload 2]) := Snd.cons (snd_aload_n (i := 1) dX5_lineUp_54 rfl) (Snd.cons (snd_getN (ci := 4) (k := 8) dX5_lineUp_55 rfl inX3 (by decide) tn_47) (Snd.cons (snd_iload_n (i := 2) dX5_lineUp_58 rfl) Snd.nil))
theorem bX5_lineUp_62_63 {l : Launch} {E : XE} : Snd l E mX5_lineUp 62 63 (xs [x_push (.int (nI 1))]) := Snd.cons (snd_iconst (v := nI 1) dX5_lineUp_62 (by decide)) Snd.nil
theorem bX5_lineUp_74_7 {l : Launch} {E : XE} : Snd l E mX5_lineUp 74 7 (xs [x_id]) := Snd.cons (snd_goto (tgt := 7) dX5_lineUp_74 (by decide)) Snd.nil
theorem bX5_lineUp_66_68 {l : Launch} {E : XE} : Snd l E mX5_lineUp 66 68 (xs [x_aload 0, x_iload 2]) := Snd.cons (snd_aload_n (i := 0) dX5_lineUp_66 rfl) (Snd.cons (snd_iload_n (i := 2) dX5_lineUp_67 rfl) Snd.nil)
set_option maxHeartbeats 4000000 in
set_option maxRecDepth 100000 in
theorem m_X5_lineUp {l : Launch} {E : XE} (Q : SeaN) (S : SaleN) (hS : SaleOK S) (hf : Q.fd < 2147483648) : MetE l E mX5_lineUp (2) 0 0 [.ref 0, .ref 3] (seaW 0 Q ++ saleW 3 S) (fun r w' => r = none ∧ ∃ Q' : SeaN, w' = seaW 0 Q' ++ saleW 3 S ∧ SeaOK Q' S (ordN S S.ca) ∧ Q'.lk = Q.lk ∧ Q'.fd = Q.fd) := by
  refine MetE.of (by decide +kernel) (Nat.le_of_ble_eq_true rfl) ?_
  have hca := hS.1
  have hac := ac_lt hS
  refine ev_eq (lv' := [(0, .ref 0), (1, .ref 3)]) (st' := []) (w' := seaW 0 Q ++ saleW 3 S) rfl rfl rfl ?_
  refine ev_b bX5_lineUp_0_7 (lv' := [(2, .int (nI (0))), (0, .ref 0), (1, .ref 3)]) (st' := []) (w2 := seaW 0 ((Q.sh, Q.od, 0, Q.lk, Q.fd) : SeaN) ++ saleW 3 S) rfl ?_
  have L7 : ∀ (j_ k : Nat), k + j_ = S.ca → ∀ (Q2 : SeaN), ((Q2.ln = (ordN S k).length ∧ RowIs Q2.od (ordN S k) ∧ ∀ j, j < k → Q2.sh j = shareN S j) ∧ Q2.lk = Q.lk ∧ Q2.fd = Q.fd) → Ev l E mX5_lineUp (2) 0 0 (seaW 0 Q ++ saleW 3 S) (fun r w' => r = none ∧ ∃ Q' : SeaN, w' = seaW 0 Q' ++ saleW 3 S ∧ SeaOK Q' S (ordN S S.ca) ∧ Q'.lk = Q.lk ∧ Q'.fd = Q.fd) 0 0 7 [(2, .int (nI (k))), (0, .ref 0), (1, .ref 3)] [] (seaW 0 Q2 ++ saleW 3 S) := by
    intro j_
    induction j_ with
    | zero =>
      intro k hk7 Q2 hinv7
      replace hk7 : k = S.ca := hk7
      refine ev_b bX5_lineUp_7_12 (lv' := [(2, .int (nI (k))), (0, .ref 0), (1, .ref 3)]) (st' := [.int (nI (S.ca)), .int (nI (k))]) (w2 := seaW 0 Q2 ++ saleW 3 S) rfl ?_
      refine ev_icmp_ge_n (tgt := 77) (by omega) (by omega) dX5_lineUp_12 (by decide) (fun h12 => ?_) (fun h12 => (by exfalso; omega))
      exact ev_vret dX5_lineUp_77 rfl (Nat.le_of_ble_eq_true rfl) (Nat.le_refl _) (Nat.le_refl _) ⟨rfl, _, rfl, ⟨by rw [← hk7]; exact hinv7.1.1, Nat.le_trans (ordN_len S S.ca) hS.1, by rw [← hk7]; exact hinv7.1.2.1, fun x hx => ⟨ordN_mem S _ x hx, hinv7.1.2.2 x (by rw [hk7]; exact ordN_mem S _ x hx)⟩, by rw [hinv7.2.2]; exact hf⟩, hinv7.2⟩
    | succ j_ ih7 =>
      intro k hk7 Q2 hinv7
      have hlt7 : k < S.ca := by omega
      obtain ⟨-, k1, k2, k3⟩ := hS.2.2.1 k hlt7
      obtain ⟨p1, p2⟩ := pop64 _ k2 k1
      refine ev_b bX5_lineUp_7_12 (lv' := [(2, .int (nI (k))), (0, .ref 0), (1, .ref 3)]) (st' := [.int (nI (S.ca)), .int (nI (k))]) (w2 := seaW 0 Q2 ++ saleW 3 S) rfl ?_
      refine ev_icmp_ge_n (tgt := 77) (by omega) (by omega) dX5_lineUp_12 (by decide) (fun h12 => (by exfalso; omega)) (fun h12 => ?_)
      refine ev_b bX5_lineUp_15_18 (lv' := [(2, .int (nI (k))), (0, .ref 0), (1, .ref 3)]) (st' := [.int (nI (10)), .int (nI (k))]) (w2 := seaW 0 Q2 ++ saleW 3 S) rfl ?_
      refine ev_icmp_ge_n (tgt := 77) (by omega) (by decide) dX5_lineUp_18 (by decide) (fun h18 => (by exfalso; omega)) (fun h18 => ?_)
      refine ev_b bX5_lineUp_21_23 (lv' := [(2, .int (nI (k))), (0, .ref 0), (1, .ref 3)]) (st' := [.int (nI (k)), .ref 3]) (w2 := seaW 0 Q2 ++ saleW 3 S) rfl ?_
      refine ev_callVN (Yc := mX3_setOf) [3, 4, 5, 6, 7, 8, 9, 10] dX5_lineUp_23 tn_560 kX3_setOf (m_X3_setOf S k hS hlt7) rfl (st := []) rfl rfl rfl (by decide) hw_Sea0_Sale3__3 (by decide) (Nat.le_of_ble_eq_true rfl) (Nat.le_refl _) (Nat.le_refl _) (fun r w' h => by obtain ⟨-, rfl⟩ := h; exact Nat.le_of_ble_eq_true rfl) ?_
      rintro _ _ ⟨rfl, rfl⟩
      refine ev_eq (lv' := [(2, .int (nI (k))), (0, .ref 0), (1, .ref 3)]) (st' := [.int (nI (S.st k))]) (w' := seaW 0 Q2 ++ saleW 3 S) rfl rfl xp_Sea0_Sale3__3 ?_
      refine ev_callS (Yc := mJ6_bitCount_0f7a4) [] dX5_lineUp_26 tw_561 kJ6_bitCount_0f7a4 (m_bitCount (S.st k) (by omega)) rfl (st := []) rfl (by decide) rfl (by decide) (Nat.le_of_ble_eq_true rfl) (Nat.le_refl _) (Nat.le_refl _) (fun r w' h => by obtain ⟨-, rfl⟩ := h; exact Nat.le_of_ble_eq_true rfl) ?_
      rintro _ _ ⟨rfl, rfl⟩
      refine ev_eq (lv' := [(2, .int (nI (k))), (0, .ref 0), (1, .ref 3)]) (st' := [.int (nI (pop (S.st k)))]) (w' := seaW 0 Q2 ++ saleW 3 S) rfl rfl rfl ?_
      refine ev_b bX5_lineUp_29_36 (lv' := [(3, .int (nI (pop (S.st k)))), (2, .int (nI (k))), (0, .ref 0), (1, .ref 3)]) (st' := [.int (nI (pop (S.st k))), .int (nI (k)), .ref 1]) (w2 := seaW 0 Q2 ++ saleW 3 S) rfl ?_
      refine ev_if_ne_n (tgt := 43) (by omega) dX5_lineUp_36 (by decide) (fun h36 => ?_) (fun h36 => (by exfalso; omega))
      refine ev_b bX5_lineUp_43_47 (lv' := [(3, .int (nI (pop (S.st k)))), (2, .int (nI (k))), (0, .ref 0), (1, .ref 3)]) (st' := [.int (nI (k)), .ref 3, .int (nI (60)), .int (nI (k)), .ref 1]) (w2 := seaW 0 Q2 ++ saleW 3 S) rfl ?_
      refine ev_callVN (Yc := mX3_priceOf) [3, 4, 5, 6, 7, 8, 9, 10] dX5_lineUp_47 tn_562 kX3_priceOf (m_X3_priceOf S k hS hlt7) rfl (st := [.int (nI (60)), .int (nI (k)), .ref 1]) rfl rfl rfl (by decide) hw_Sea0_Sale3__3 (by decide) (Nat.le_of_ble_eq_true rfl) (Nat.le_refl _) (Nat.le_refl _) (fun r w' h => by obtain ⟨-, rfl⟩ := h; exact Nat.le_of_ble_eq_true rfl) ?_
      rintro _ _ ⟨rfl, rfl⟩
      refine ev_eq (lv' := [(3, .int (nI (pop (S.st k)))), (2, .int (nI (k))), (0, .ref 0), (1, .ref 3)]) (st' := [.int (nI (S.pr k)), .int (nI (60)), .int (nI (k)), .ref 1]) (w' := seaW 0 Q2 ++ saleW 3 S) rfl rfl xp_Sea0_Sale3__3 ?_
      refine ev_imul_n dX5_lineUp_50 ?_
      refine ev_b bX5_lineUp_51_52 (lv' := [(3, .int (nI (pop (S.st k)))), (2, .int (nI (k))), (0, .ref 0), (1, .ref 3)]) (st' := [.int (nI (pop (S.st k))), .int (nI (60 * (S.pr k))), .int (nI (k)), .ref 1]) (w2 := seaW 0 Q2 ++ saleW 3 S) rfl ?_
      refine ev_idiv_n (by omega) (by omega) (by omega) dX5_lineUp_52 ?_
      refine ev_iast_n (f := Q2.sh) dX5_lineUp_53 rfl (by omega) (by decide) ?_
      refine ev_eq (w' := seaW 0 ((up Q2.sh k ((60 * (S.pr k)) / (pop (S.st k))), Q2.od, Q2.ln, Q2.lk, Q2.fd) : SeaN) ++ saleW 3 S) rfl rfl rfl ?_
      refine ev_b bX5_lineUp_54_59 (lv' := [(3, .int (nI (pop (S.st k)))), (2, .int (nI (k))), (0, .ref 0), (1, .ref 3)]) (st' := [.int (nI (k)), .int (nI (S.ac))]) (w2 := seaW 0 ((up Q2.sh k ((60 * (S.pr k)) / (pop (S.st k))), Q2.od, Q2.ln, Q2.lk, Q2.fd) : SeaN) ++ saleW 3 S) rfl ?_
      refine ev_callSN (Yc := mX6_bitAt) [] dX5_lineUp_59 tn_563 kX6_bitAt (m_X6_bitAt S.ac k hac (by omega)) rfl (st := []) rfl (by decide) rfl (by decide) (Nat.le_of_ble_eq_true rfl) (Nat.le_refl _) (Nat.le_refl _) (fun r w' h => by obtain ⟨-, rfl⟩ := h; exact Nat.le_of_ble_eq_true rfl) ?_
      rintro _ _ ⟨rfl, rfl⟩
      refine ev_eq (lv' := [(3, .int (nI (pop (S.st k)))), (2, .int (nI (k))), (0, .ref 0), (1, .ref 3)]) (st' := [.int (nI (b01 (S.ac.testBit k = true)))]) (w' := seaW 0 ((up Q2.sh k ((60 * (S.pr k)) / (pop (S.st k))), Q2.od, Q2.ln, Q2.lk, Q2.fd) : SeaN) ++ saleW 3 S) rfl rfl rfl ?_
      refine ev_b bX5_lineUp_62_63 (lv' := [(3, .int (nI (pop (S.st k)))), (2, .int (nI (k))), (0, .ref 0), (1, .ref 3)]) (st' := [.int (nI (1)), .int (nI (b01 (S.ac.testBit k = true)))]) (w2 := seaW 0 ((up Q2.sh k ((60 * (S.pr k)) / (pop (S.st k))), Q2.od, Q2.ln, Q2.lk, Q2.fd) : SeaN) ++ saleW 3 S) rfl ?_
      refine ev_icmpne_b1 (tgt := 71) dX5_lineUp_63 (by decide) (fun h63 => ?_) (fun h63 => ?_)
      · skip
        have hnext : (Q2.ln = (ordN S (k + 1)).length ∧ RowIs Q2.od (ordN S (k + 1)) ∧ ∀ j, j < k + 1 → up Q2.sh k (60 * S.pr k / pop (S.st k)) j = shareN S j) ∧ Q2.lk = Q.lk ∧ Q2.fd = Q.fd := by
          rw [ordN_s, if_neg h63]
          exact ⟨⟨hinv7.1.1, hinv7.1.2.1, line_sh hinv7.1.2.2 rfl⟩, hinv7.2⟩
        refine ev_iinc_n (x := k) (v := 1) dX5_lineUp_71 rfl (by decide) ?_
        refine ev_eq (lv' := [(2, .int (nI (k + 1))), (3, .int (nI (pop (S.st k)))), (0, .ref 0), (1, .ref 3)]) rfl rfl rfl ?_
        refine ev_b bX5_lineUp_74_7 (lv' := [(2, .int (nI (k + 1))), (3, .int (nI (pop (S.st k)))), (0, .ref 0), (1, .ref 3)]) (st' := []) (w2 := seaW 0 ((up Q2.sh k ((60 * (S.pr k)) / (pop (S.st k))), Q2.od, Q2.ln, Q2.lk, Q2.fd) : SeaN) ++ saleW 3 S) rfl ?_
        refine ev_pick (lv' := [(2, .int (nI (k + 1))), (0, .ref 0), (1, .ref 3)]) rfl ?_
        rw [show nI (k + 1) = nI ((k + 1)) from congrArg nI (by omega)]
        exact ih7 (k + 1) (by omega) ((up Q2.sh k ((60 * (S.pr k)) / (pop (S.st k))), Q2.od, Q2.ln, Q2.lk, Q2.fd) : SeaN) hnext
      · skip
        refine ev_b bX5_lineUp_66_68 (lv' := [(3, .int (nI (pop (S.st k)))), (2, .int (nI (k))), (0, .ref 0), (1, .ref 3)]) (st' := [.int (nI (k)), .ref 0]) (w2 := seaW 0 ((up Q2.sh k ((60 * (S.pr k)) / (pop (S.st k))), Q2.od, Q2.ln, Q2.lk, Q2.fd) : SeaN) ++ saleW 3 S) rfl ?_
        refine ev_callV (Yc := mX5_insert) [0, 1, 2] dX5_lineUp_68 tw_564 kX5_insert (m_X5_insert ((up Q2.sh k (60 * S.pr k / pop (S.st k)), Q2.od, Q2.ln, Q2.lk, Q2.fd) : SeaN) S (ordN S k) k hS (line_ok hinv7.1.1 hinv7.1.2.1 hinv7.1.2.2 (by rw [hinv7.2.2]; exact hf) (Nat.le_of_lt hlt7) hS) (Nat.lt_of_le_of_lt (ordN_len S k) (by omega)) hlt7 (up_at _ _ _)) rfl (st := []) rfl rfl rfl (by decide) hw_Sea0_Sale3__0 (by decide) (Nat.le_of_ble_eq_true rfl) (Nat.le_refl _) (Nat.le_refl _) (fun r w' h => by obtain ⟨-, Q3, rfl, -⟩ := h; exact Nat.le_of_ble_eq_true rfl) ?_
        rintro _ _ ⟨rfl, Q3, rfl, e1, e2, e3, e4, e5⟩
        refine ev_eq (lv' := [(3, .int (nI (pop (S.st k)))), (2, .int (nI (k))), (0, .ref 0), (1, .ref 3)]) (st' := []) (w' := seaW 0 Q3 ++ saleW 3 S) rfl rfl xp_Sea0_Sale3__0 ?_
        have hnext : (Q3.ln = (ordN S (k + 1)).length ∧ RowIs Q3.od (ordN S (k + 1)) ∧ ∀ j, j < k + 1 → Q3.sh j = shareN S j) ∧ Q3.lk = Q.lk ∧ Q3.fd = Q.fd := by
          rw [ordN_s, if_pos h63, e3, e4, e5]
          exact ⟨⟨e1, e2, line_sh hinv7.1.2.2 rfl⟩, hinv7.2⟩
        refine ev_iinc_n (x := k) (v := 1) dX5_lineUp_71 rfl (by decide) ?_
        refine ev_eq (lv' := [(2, .int (nI (k + 1))), (3, .int (nI (pop (S.st k)))), (0, .ref 0), (1, .ref 3)]) rfl rfl rfl ?_
        refine ev_b bX5_lineUp_74_7 (lv' := [(2, .int (nI (k + 1))), (3, .int (nI (pop (S.st k)))), (0, .ref 0), (1, .ref 3)]) (st' := []) (w2 := seaW 0 Q3 ++ saleW 3 S) rfl ?_
        refine ev_pick (lv' := [(2, .int (nI (k + 1))), (0, .ref 0), (1, .ref 3)]) rfl ?_
        rw [show nI (k + 1) = nI ((k + 1)) from congrArg nI (by omega)]
        exact ih7 (k + 1) (by omega) Q3 hnext
  exact L7 S.ca 0 (by omega) _ ⟨⟨rfl, (fun p m h => by cases h), fun j hj => absurd hj (Nat.not_lt_zero j)⟩, rfl, rfl⟩
theorem bX5_mostFor_0_4 {l : Launch} {E : XE} : Snd l E mX5_mostFor 0 4 (xs [x_push (.int (nI 60)), x_aload 1, x_iload 3]) := Snd.cons (snd_bipush (v := nI 60) dX5_mostFor_0 (by decide)) (Snd.cons (snd_aload_n (i := 1) dX5_mostFor_2 rfl) (Snd.cons (snd_iload_n (i := 3) dX5_mostFor_3 rfl) Snd.nil))
theorem bX5_mostFor_8_13 {l : Launch} {E : XE} : Snd l E mX5_mostFor 8 13 (xs [x_istore 4, x_iload 2, x_istore 5]) := Snd.cons (snd_istore dX5_mostFor_8 (by decide)) (Snd.cons (snd_iload_n (i := 2) dX5_mostFor_10 rfl) (Snd.cons (snd_istore dX5_mostFor_11 (by decide)) Snd.nil))
theorem bX5_mostFor_13_19 {l : Launch} {E : XE} : Snd l E mX5_mostFor 13 19 (xs [x_iload 5, x_aload 0, x_get 6 2]) := Snd.cons (snd_iload dX5_mostFor_13) (Snd.cons (snd_aload_n (i := 0) dX5_mostFor_15 rfl) (Snd.cons (snd_get (ci := 6) (k := 2) dX5_mostFor_16 rfl inX5 (by decide) tw_140) Snd.nil))
theorem bX5_mostFor_63_65 {l : Launch} {E : XE} : Snd l E mX5_mostFor 63 65 (xs [x_iload 4]) := Snd.cons (snd_iload dX5_mostFor_63) Snd.nil
theorem bX5_mostFor_22_25 {l : Launch} {E : XE} : Snd l E mX5_mostFor 22 25 (xs [x_aload 0, x_iload 5]) := Snd.cons (snd_aload_n (i := 0) dX5_mostFor_22 rfl) (Snd.cons (snd_iload dX5_mostFor_23) Snd.nil)
theorem bX5_mostFor_28_33 {l : Launch} {E : XE} : Snd l E mX5_mostFor 28 33 (xs [x_istore 6, x_aload 1, x_iload 6]) := Snd.cons (snd_istore dX5_mostFor_28 (by decide)) (Snd.cons (snd_aload_n (i := 1) dX5_mostFor_30 rfl) (Snd.cons (snd_iload dX5_mostFor_31) Snd.nil))
theorem bX5_mostFor_36_37 {l : Launch} {E : XE} : Snd l E mX5_mostFor 36 37 (xs [x_iload 3]) := Snd.cons (snd_iload_n (i := 3) dX5_mostFor_36 rfl) Snd.nil
theorem bX5_mostFor_40_41 {l : Launch} {E : XE} : Snd l E mX5_mostFor 40 41 (xs [x_push (.int (nI 1))]) := Snd.cons (snd_iconst (v := nI 1) dX5_mostFor_40 (by decide)) Snd.nil
theorem bX5_mostFor_60_13 {l : Launch} {E : XE} : Snd l E mX5_mostFor 60 13 (xs [x_id]) := Snd.cons (snd_goto (tgt := 13) dX5_mostFor_60 (by decide)) Snd.nil
theorem bX5_mostFor_44_49 {l : Launch} {E : XE} : Snd l E mX5_mostFor 44 49 (xs [x_iload 4, x_aload 0, x_iload 6]) := Snd.cons (snd_iload dX5_mostFor_44) (Snd.cons (snd_aload_n (i := 0) dX5_mostFor_46 rfl) (Snd.cons (snd_iload dX5_mostFor_47) Snd.nil))
theorem bX5_mostFor_55_57 {l : Launch} {E : XE} : Snd l E mX5_mostFor 55 57 (xs [x_istore 4]) := Snd.cons (snd_istore dX5_mostFor_55 (by decide)) Snd.nil
set_option maxHeartbeats 4000000 in
set_option maxRecDepth 100000 in
theorem m_X5_mostFor {l : Launch} {E : XE} (Q : SeaN) (S : SaleN) (L : List Nat) (place item : Nat) (hS : SaleOK S) (hQ : SeaOK Q S L) (hp : place ≤ L.length) (hi : item < 6) : MetE l E mX5_mostFor (2) 0 0 [.ref 0, .ref 3, .int (nI (place)), .int (nI (item))] (seaW 0 Q ++ saleW 3 S) (fun r w' => r = some (.int (nI (mostF S item (L.drop place)))) ∧ w' = seaW 0 Q ++ saleW 3 S) := by
  refine MetE.of (by decide +kernel) (Nat.le_of_ble_eq_true rfl) ?_
  have hca := hS.1
  have hln := hQ.1
  have hl10 := hQ.2.1
  have hmf : ∀ j, mostF S item ((L.drop place).take j) ≤ 5940 := fun j => mostF_le hS hi (fun x hx => (hQ.2.2.2.1 x (List.mem_of_mem_drop (List.mem_of_mem_take hx))).1)
  refine ev_eq (lv' := [(0, .ref 0), (1, .ref 3), (2, .int (nI (place))), (3, .int (nI (item)))]) (st' := []) (w' := seaW 0 Q ++ saleW 3 S) rfl rfl rfl ?_
  refine ev_b bX5_mostFor_0_4 (lv' := [(0, .ref 0), (1, .ref 3), (2, .int (nI (place))), (3, .int (nI (item)))]) (st' := [.int (nI (item)), .ref 3, .int (nI (60))]) (w2 := seaW 0 Q ++ saleW 3 S) rfl ?_
  refine ev_callVN (Yc := mX3_reserveOf) [3, 4, 5, 6, 7, 8, 9, 10] dX5_mostFor_4 tn_653 kX3_reserveOf (m_X3_reserveOf S item hi) rfl (st := [.int (nI (60))]) rfl rfl rfl (by decide) hw_Sea0_Sale3__3 (by decide) (Nat.le_of_ble_eq_true rfl) (Nat.le_refl _) (Nat.le_refl _) (fun r w' h => by obtain ⟨-, rfl⟩ := h; exact Nat.le_of_ble_eq_true rfl) ?_
  rintro _ _ ⟨rfl, rfl⟩
  refine ev_eq (lv' := [(0, .ref 0), (1, .ref 3), (2, .int (nI (place))), (3, .int (nI (item)))]) (st' := [.int (nI (S.rs item)), .int (nI (60))]) (w' := seaW 0 Q ++ saleW 3 S) rfl rfl xp_Sea0_Sale3__3 ?_
  refine ev_imul_n dX5_mostFor_7 ?_
  refine ev_b bX5_mostFor_8_13 (lv' := [(5, .int (nI (place))), (4, .int (nI (60 * (S.rs item)))), (0, .ref 0), (1, .ref 3), (2, .int (nI (place))), (3, .int (nI (item)))]) (st' := []) (w2 := seaW 0 Q ++ saleW 3 S) rfl ?_
  have L13 : ∀ (j_ k : Nat), k + j_ = L.length → (place ≤ k) → Ev l E mX5_mostFor (2) 0 0 (seaW 0 Q ++ saleW 3 S) (fun r w' => r = some (.int (nI (mostF S item (L.drop place)))) ∧ w' = seaW 0 Q ++ saleW 3 S) 0 0 13 [(5, .int (nI (k))), (4, .int (nI (mostF S item ((L.drop place).take (k - place))))), (0, .ref 0), (1, .ref 3), (2, .int (nI (place))), (3, .int (nI (item)))] [] (seaW 0 Q ++ saleW 3 S) := by
    intro j_
    induction j_ with
    | zero =>
      intro k hk13  hinv13
      replace hk13 : k = L.length := hk13
      have hm0 := hmf (k - place)
      refine ev_b bX5_mostFor_13_19 (lv' := [(5, .int (nI (k))), (4, .int (nI (mostF S item ((L.drop place).take (k - place))))), (0, .ref 0), (1, .ref 3), (2, .int (nI (place))), (3, .int (nI (item)))]) (st' := [.int (nI (Q.ln)), .int (nI (k))]) (w2 := seaW 0 Q ++ saleW 3 S) rfl ?_
      refine ev_icmp_ge_n (tgt := 63) (by omega) (by omega) dX5_mostFor_19 (by decide) (fun h19 => ?_) (fun h19 => (by exfalso; omega))
      refine ev_b bX5_mostFor_63_65 (lv' := [(5, .int (nI (k))), (4, .int (nI (mostF S item ((L.drop place).take (k - place))))), (0, .ref 0), (1, .ref 3), (2, .int (nI (place))), (3, .int (nI (item)))]) (st' := [.int (nI (mostF S item ((L.drop place).take (k - place))))]) (w2 := seaW 0 Q ++ saleW 3 S) rfl ?_
      exact ev_iret dX5_mostFor_65 rfl (Nat.le_of_ble_eq_true rfl) (Nat.le_refl _) (Nat.le_refl _) ⟨(congrArg (fun t => some (Value.int (nI t))) (show mostF S item ((L.drop place).take (k - place)) = mostF S item (L.drop place) from by rw [List.take_of_length_le (by rw [List.length_drop]; omega)])), rfl⟩
    | succ j_ ih13 =>
      intro k hk13  hinv13
      have hlt13 : k < L.length := by omega
      obtain ⟨m, em, eo, emc, esh, -⟩ := sea_at hQ (p := k) hlt13
      obtain ⟨-, k1, k2, k3⟩ := hS.2.2.1 m emc
      have esl := share_le hS emc
      have hdr : (L.drop place)[k - place]? = some m := by rw [List.getElem?_drop, show place + (k - place) = k by omega]; exact em
      have hst := mf_take (S := S) (i := item) hdr
      rw [← eo] at emc esh k2 esl
      have hm0 := hmf (k - place)
      refine ev_b bX5_mostFor_13_19 (lv' := [(5, .int (nI (k))), (4, .int (nI (mostF S item ((L.drop place).take (k - place))))), (0, .ref 0), (1, .ref 3), (2, .int (nI (place))), (3, .int (nI (item)))]) (st' := [.int (nI (Q.ln)), .int (nI (k))]) (w2 := seaW 0 Q ++ saleW 3 S) rfl ?_
      refine ev_icmp_ge_n (tgt := 63) (by omega) (by omega) dX5_mostFor_19 (by decide) (fun h19 => (by exfalso; omega)) (fun h19 => ?_)
      refine ev_b bX5_mostFor_22_25 (lv' := [(5, .int (nI (k))), (4, .int (nI (mostF S item ((L.drop place).take (k - place))))), (0, .ref 0), (1, .ref 3), (2, .int (nI (place))), (3, .int (nI (item)))]) (st' := [.int (nI (k)), .ref 0]) (w2 := seaW 0 Q ++ saleW 3 S) rfl ?_
      refine ev_callV (Yc := mX5_bidAt) [0, 1, 2] dX5_mostFor_25 tw_576 kX5_bidAt (m_X5_bidAt Q k (by omega) (by omega)) rfl (st := []) rfl rfl rfl (by decide) hw_Sea0_Sale3__0 (by decide) (Nat.le_of_ble_eq_true rfl) (Nat.le_refl _) (Nat.le_refl _) (fun r w' h => by obtain ⟨-, rfl⟩ := h; exact Nat.le_of_ble_eq_true rfl) ?_
      rintro _ _ ⟨rfl, rfl⟩
      refine ev_eq (lv' := [(5, .int (nI (k))), (4, .int (nI (mostF S item ((L.drop place).take (k - place))))), (0, .ref 0), (1, .ref 3), (2, .int (nI (place))), (3, .int (nI (item)))]) (st' := [.int (nI (Q.od k))]) (w' := seaW 0 Q ++ saleW 3 S) rfl rfl xp_Sea0_Sale3__0 ?_
      refine ev_b bX5_mostFor_28_33 (lv' := [(6, .int (nI (Q.od k))), (5, .int (nI (k))), (4, .int (nI (mostF S item ((L.drop place).take (k - place))))), (0, .ref 0), (1, .ref 3), (2, .int (nI (place))), (3, .int (nI (item)))]) (st' := [.int (nI (Q.od k)), .ref 3]) (w2 := seaW 0 Q ++ saleW 3 S) rfl ?_
      refine ev_callVN (Yc := mX3_setOf) [3, 4, 5, 6, 7, 8, 9, 10] dX5_mostFor_33 tn_560 kX3_setOf (m_X3_setOf S (Q.od k) hS emc) rfl (st := []) rfl rfl rfl (by decide) hw_Sea0_Sale3__3 (by decide) (Nat.le_of_ble_eq_true rfl) (Nat.le_refl _) (Nat.le_refl _) (fun r w' h => by obtain ⟨-, rfl⟩ := h; exact Nat.le_of_ble_eq_true rfl) ?_
      rintro _ _ ⟨rfl, rfl⟩
      refine ev_eq (lv' := [(6, .int (nI (Q.od k))), (5, .int (nI (k))), (4, .int (nI (mostF S item ((L.drop place).take (k - place))))), (0, .ref 0), (1, .ref 3), (2, .int (nI (place))), (3, .int (nI (item)))]) (st' := [.int (nI (S.st (Q.od k)))]) (w' := seaW 0 Q ++ saleW 3 S) rfl rfl xp_Sea0_Sale3__3 ?_
      refine ev_b bX5_mostFor_36_37 (lv' := [(6, .int (nI (Q.od k))), (5, .int (nI (k))), (4, .int (nI (mostF S item ((L.drop place).take (k - place))))), (0, .ref 0), (1, .ref 3), (2, .int (nI (place))), (3, .int (nI (item)))]) (st' := [.int (nI (item)), .int (nI (S.st (Q.od k)))]) (w2 := seaW 0 Q ++ saleW 3 S) rfl ?_
      refine ev_callSN (Yc := mX6_bitAt) [] dX5_mostFor_37 tn_563 kX6_bitAt (m_X6_bitAt (S.st (Q.od k)) item (by omega) (by omega)) rfl (st := []) rfl (by decide) rfl (by decide) (Nat.le_of_ble_eq_true rfl) (Nat.le_refl _) (Nat.le_refl _) (fun r w' h => by obtain ⟨-, rfl⟩ := h; exact Nat.le_of_ble_eq_true rfl) ?_
      rintro _ _ ⟨rfl, rfl⟩
      refine ev_eq (lv' := [(6, .int (nI (Q.od k))), (5, .int (nI (k))), (4, .int (nI (mostF S item ((L.drop place).take (k - place))))), (0, .ref 0), (1, .ref 3), (2, .int (nI (place))), (3, .int (nI (item)))]) (st' := [.int (nI (b01 ((S.st (Q.od k)).testBit item = true)))]) (w' := seaW 0 Q ++ saleW 3 S) rfl rfl rfl ?_
      refine ev_b bX5_mostFor_40_41 (lv' := [(6, .int (nI (Q.od k))), (5, .int (nI (k))), (4, .int (nI (mostF S item ((L.drop place).take (k - place))))), (0, .ref 0), (1, .ref 3), (2, .int (nI (place))), (3, .int (nI (item)))]) (st' := [.int (nI (1)), .int (nI (b01 ((S.st (Q.od k)).testBit item = true)))]) (w2 := seaW 0 Q ++ saleW 3 S) rfl ?_
      refine ev_icmpne_b1 (tgt := 57) dX5_mostFor_41 (by decide) (fun h41 => ?_) (fun h41 => ?_)
      · skip
        refine ev_iinc_n (x := k) (v := 1) dX5_mostFor_57 rfl (by decide) ?_
        refine ev_eq (lv' := [(5, .int (nI (k + 1))), (6, .int (nI (Q.od k))), (4, .int (nI (mostF S item ((L.drop place).take (k - place))))), (0, .ref 0), (1, .ref 3), (2, .int (nI (place))), (3, .int (nI (item)))]) rfl rfl rfl ?_
        refine ev_b bX5_mostFor_60_13 (lv' := [(5, .int (nI (k + 1))), (6, .int (nI (Q.od k))), (4, .int (nI (mostF S item ((L.drop place).take (k - place))))), (0, .ref 0), (1, .ref 3), (2, .int (nI (place))), (3, .int (nI (item)))]) (st' := []) (w2 := seaW 0 Q ++ saleW 3 S) rfl ?_
        refine ev_pick (lv' := [(5, .int (nI (k + 1))), (4, .int (nI (mostF S item ((L.drop place).take (k - place))))), (0, .ref 0), (1, .ref 3), (2, .int (nI (place))), (3, .int (nI (item)))]) rfl ?_
        rw [show nI (k + 1) = nI ((k + 1)) from congrArg nI (by omega)]
        rw [show nI (mostF S item ((L.drop place).take (k - place))) = nI (mostF S item ((L.drop place).take ((k + 1) - place))) from congrArg nI (by rw [show k + 1 - place = (k - place) + 1 by omega, hst]; unfold mfF; rw [← eo]; first | rw [if_neg h41] | rw [if_pos h41, esh])]
        exact ih13 (k + 1) (by omega) (by omega)
      · skip
        refine ev_b bX5_mostFor_44_49 (lv' := [(6, .int (nI (Q.od k))), (5, .int (nI (k))), (4, .int (nI (mostF S item ((L.drop place).take (k - place))))), (0, .ref 0), (1, .ref 3), (2, .int (nI (place))), (3, .int (nI (item)))]) (st' := [.int (nI (Q.od k)), .ref 0, .int (nI (mostF S item ((L.drop place).take (k - place))))]) (w2 := seaW 0 Q ++ saleW 3 S) rfl ?_
        refine ev_callV (Yc := mX5_shareOf) [0, 1, 2] dX5_mostFor_49 tw_568 kX5_shareOf (m_X5_shareOf Q (Q.od k) (by omega)) rfl (st := [.int (nI (mostF S item ((L.drop place).take (k - place))))]) rfl rfl rfl (by decide) hw_Sea0_Sale3__0 (by decide) (Nat.le_of_ble_eq_true rfl) (Nat.le_refl _) (Nat.le_refl _) (fun r w' h => by obtain ⟨-, rfl⟩ := h; exact Nat.le_of_ble_eq_true rfl) ?_
        rintro _ _ ⟨rfl, rfl⟩
        refine ev_eq (lv' := [(6, .int (nI (Q.od k))), (5, .int (nI (k))), (4, .int (nI (mostF S item ((L.drop place).take (k - place))))), (0, .ref 0), (1, .ref 3), (2, .int (nI (place))), (3, .int (nI (item)))]) (st' := [.int (nI (Q.sh (Q.od k))), .int (nI (mostF S item ((L.drop place).take (k - place))))]) (w' := seaW 0 Q ++ saleW 3 S) rfl rfl xp_Sea0_Sale3__0 ?_
        refine ev_max dX5_mostFor_52 tw_654 tw_655 tw_15 tw_656 (by decide) (Nat.le_of_ble_eq_true rfl) (Nat.le_refl _) (Nat.le_refl _) ?_
        refine ev_top (n_max (by omega) (by omega)) ?_
        refine ev_b bX5_mostFor_55_57 (lv' := [(4, .int (nI (max (mostF S item ((L.drop place).take (k - place))) (Q.sh (Q.od k))))), (6, .int (nI (Q.od k))), (5, .int (nI (k))), (0, .ref 0), (1, .ref 3), (2, .int (nI (place))), (3, .int (nI (item)))]) (st' := []) (w2 := seaW 0 Q ++ saleW 3 S) rfl ?_
        refine ev_iinc_n (x := k) (v := 1) dX5_mostFor_57 rfl (by decide) ?_
        refine ev_eq (lv' := [(5, .int (nI (k + 1))), (4, .int (nI (max (mostF S item ((L.drop place).take (k - place))) (Q.sh (Q.od k))))), (6, .int (nI (Q.od k))), (0, .ref 0), (1, .ref 3), (2, .int (nI (place))), (3, .int (nI (item)))]) rfl rfl rfl ?_
        refine ev_b bX5_mostFor_60_13 (lv' := [(5, .int (nI (k + 1))), (4, .int (nI (max (mostF S item ((L.drop place).take (k - place))) (Q.sh (Q.od k))))), (6, .int (nI (Q.od k))), (0, .ref 0), (1, .ref 3), (2, .int (nI (place))), (3, .int (nI (item)))]) (st' := []) (w2 := seaW 0 Q ++ saleW 3 S) rfl ?_
        refine ev_pick (lv' := [(5, .int (nI (k + 1))), (4, .int (nI (max (mostF S item ((L.drop place).take (k - place))) (Q.sh (Q.od k))))), (0, .ref 0), (1, .ref 3), (2, .int (nI (place))), (3, .int (nI (item)))]) rfl ?_
        rw [show nI (k + 1) = nI ((k + 1)) from congrArg nI (by omega)]
        rw [show nI (max (mostF S item ((L.drop place).take (k - place))) (Q.sh (Q.od k))) = nI (mostF S item ((L.drop place).take ((k + 1) - place))) from congrArg nI (by rw [show k + 1 - place = (k - place) + 1 by omega, hst]; unfold mfF; rw [← eo]; first | rw [if_neg h41] | rw [if_pos h41, esh])]
        exact ih13 (k + 1) (by omega) (by omega)
  rw [show nI (60 * (S.rs item)) = nI (mostF S item ((L.drop place).take (place - place))) from congrArg nI (by rw [Nat.sub_self]; rfl)]
  exact L13 (L.length - place) place (by omega) (Nat.le_refl _)
theorem bX5_bound_0_2 {l : Launch} {E : XE} : Snd l E mX5_bound 0 2 (xs [x_aload 1, x_iload 3]) := Snd.cons (snd_aload_n (i := 1) dX5_bound_0 rfl) (Snd.cons (snd_iload_n (i := 3) dX5_bound_1 rfl) Snd.nil)
theorem bX5_bound_5_11 {l : Launch} {E : XE} : Snd l E mX5_bound 5 11 (xs [x_istore 4, x_push (.int (nI 60)), x_aload 1, x_iload 3]) := Snd.cons (snd_istore dX5_bound_5 (by decide)) (Snd.cons (snd_bipush (v := nI 60) dX5_bound_7 (by decide)) (Snd.cons (snd_aload_n (i := 1) dX5_bound_9 rfl) (Snd.cons (snd_iload_n (i := 3) dX5_bound_10 rfl) Snd.nil)))
theorem bX5_bound_15_20 {l : Launch} {E : XE} : Snd l E mX5_bound 15 20 (xs [x_istore 5, x_push (.int (nI 0)), x_istore 6]) := Snd.cons (snd_istore dX5_bound_15 (by decide)) (Snd.cons (snd_iconst (v := nI 0) dX5_bound_17 (by decide)) (Snd.cons (snd_istore dX5_bound_18 (by decide)) Snd.nil))
theorem bX5_bound_20_24 {l : Launch} {E : XE} : Snd l E mX5_bound 20 24 (xs [x_iload 6, x_push (.int (nI 6))]) := Snd.cons (snd_iload dX5_bound_20) (Snd.cons (snd_bipush (v := nI 6) dX5_bound_22 (by decide)) Snd.nil)
theorem bX5_bound_56_58 {l : Launch} {E : XE} : Snd l E mX5_bound 56 58 (xs [x_iload 5]) := Snd.cons (snd_iload dX5_bound_56) Snd.nil
theorem bX5_bound_27_31 {l : Launch} {E : XE} : Snd l E mX5_bound 27 31 (xs [x_iload 4, x_iload 6]) := Snd.cons (snd_iload dX5_bound_27) (Snd.cons (snd_iload dX5_bound_29) Snd.nil)
theorem bX5_bound_53_20 {l : Launch} {E : XE} : Snd l E mX5_bound 53 20 (xs [x_id]) := Snd.cons (snd_goto (tgt := 20) dX5_bound_53 (by decide)) Snd.nil
theorem bX5_bound_37_44 {l : Launch} {E : XE} : Snd l E mX5_bound 37 44 (xs [x_iload 5, x_aload 0, x_aload 1, x_iload 2, x_iload 6]) := Snd.cons (snd_iload dX5_bound_37) (Snd.cons (snd_aload_n (i := 0) dX5_bound_39 rfl) (Snd.cons (snd_aload_n (i := 1) dX5_bound_40 rfl) (Snd.cons (snd_iload_n (i := 2) dX5_bound_41 rfl) (Snd.cons (snd_iload dX5_bound_42) Snd.nil))))
theorem bX5_bound_48_50 {l : Launch} {E : XE} : Snd l E mX5_bound 48 50 (xs [x_istore 5]) := Snd.cons (snd_istore dX5_bound_48 (by decide)) Snd.nil
set_option maxHeartbeats 4000000 in
set_option maxRecDepth 100000 in
theorem m_X5_bound {l : Launch} {E : XE} (Q : SeaN) (S : SaleN) (L : List Nat) (place taken : Nat) (hS : SaleOK S) (hQ : SeaOK Q S L) (hp : place ≤ L.length) (ht : taken < 2147483648) : MetE l E mX5_bound (3) 0 0 [.ref 0, .ref 3, .int (nI (place)), .int (nI (taken))] (seaW 0 Q ++ saleW 3 S) (fun r w' => r = some (.int (nI (bdTo S (L.drop place) taken 6))) ∧ w' = seaW 0 Q ++ saleW 3 S) := by
  refine MetE.of (by decide +kernel) (Nat.le_of_ble_eq_true rfl) ?_
  have hit : itTo S.st taken S.ca < 64 := itTo_lt S.ca (Nat.le_refl _) (fun k hk => (hS.2.2.1 k hk).2.2.1)
  refine ev_eq (lv' := [(0, .ref 0), (1, .ref 3), (2, .int (nI (place))), (3, .int (nI (taken)))]) (st' := []) (w' := seaW 0 Q ++ saleW 3 S) rfl rfl rfl ?_
  refine ev_b bX5_bound_0_2 (lv' := [(0, .ref 0), (1, .ref 3), (2, .int (nI (place))), (3, .int (nI (taken)))]) (st' := [.int (nI (taken)), .ref 3]) (w2 := seaW 0 Q ++ saleW 3 S) rfl ?_
  refine ev_callVN (Yc := mX3_itemsOf) [3, 4, 5, 6, 7, 8, 9, 10] dX5_bound_2 tn_647 kX3_itemsOf (m_X3_itemsOf S taken hS ht) rfl (st := []) rfl rfl rfl (by decide) hw_Sea0_Sale3__3 (by decide) (Nat.le_of_ble_eq_true rfl) (Nat.le_refl _) (Nat.le_refl _) (fun r w' h => by obtain ⟨-, rfl⟩ := h; exact Nat.le_of_ble_eq_true rfl) ?_
  rintro _ _ ⟨rfl, rfl⟩
  refine ev_eq (lv' := [(0, .ref 0), (1, .ref 3), (2, .int (nI (place))), (3, .int (nI (taken)))]) (st' := [.int (nI (itTo S.st taken S.ca))]) (w' := seaW 0 Q ++ saleW 3 S) rfl rfl xp_Sea0_Sale3__3 ?_
  refine ev_b bX5_bound_5_11 (lv' := [(4, .int (nI (itTo S.st taken S.ca))), (0, .ref 0), (1, .ref 3), (2, .int (nI (place))), (3, .int (nI (taken)))]) (st' := [.int (nI (taken)), .ref 3, .int (nI (60))]) (w2 := seaW 0 Q ++ saleW 3 S) rfl ?_
  refine ev_callVN (Yc := mX3_pricesOf) [3, 4, 5, 6, 7, 8, 9, 10] dX5_bound_11 tn_648 kX3_pricesOf (m_X3_pricesOf S taken hS ht) rfl (st := [.int (nI (60))]) rfl rfl rfl (by decide) hw_Sea0_Sale3__3 (by decide) (Nat.le_of_ble_eq_true rfl) (Nat.le_refl _) (Nat.le_refl _) (fun r w' h => by obtain ⟨-, rfl⟩ := h; exact Nat.le_of_ble_eq_true rfl) ?_
  rintro _ _ ⟨rfl, rfl⟩
  refine ev_eq (lv' := [(4, .int (nI (itTo S.st taken S.ca))), (0, .ref 0), (1, .ref 3), (2, .int (nI (place))), (3, .int (nI (taken)))]) (st' := [.int (nI (prTo S.pr taken S.ca)), .int (nI (60))]) (w' := seaW 0 Q ++ saleW 3 S) rfl rfl xp_Sea0_Sale3__3 ?_
  refine ev_imul_n dX5_bound_14 ?_
  refine ev_b bX5_bound_15_20 (lv' := [(6, .int (nI (0))), (5, .int (nI (60 * (prTo S.pr taken S.ca)))), (4, .int (nI (itTo S.st taken S.ca))), (0, .ref 0), (1, .ref 3), (2, .int (nI (place))), (3, .int (nI (taken)))]) (st' := []) (w2 := seaW 0 Q ++ saleW 3 S) rfl ?_
  have L20 : ∀ (j_ k : Nat), k + j_ = 6 → Ev l E mX5_bound (3) 0 0 (seaW 0 Q ++ saleW 3 S) (fun r w' => r = some (.int (nI (bdTo S (L.drop place) taken 6))) ∧ w' = seaW 0 Q ++ saleW 3 S) 0 0 20 [(6, .int (nI (k))), (5, .int (nI (bdTo S (L.drop place) taken k))), (0, .ref 0), (1, .ref 3), (2, .int (nI (place))), (3, .int (nI (taken))), (4, .int (nI (itTo S.st taken S.ca)))] [] (seaW 0 Q ++ saleW 3 S) := by
    intro j_
    induction j_ with
    | zero =>
      intro k hk20  
      replace hk20 : k = 6 := hk20
      subst hk20
      refine ev_b bX5_bound_20_24 (lv' := [(6, .int (nI (6))), (5, .int (nI (bdTo S (L.drop place) taken 6))), (0, .ref 0), (1, .ref 3), (2, .int (nI (place))), (3, .int (nI (taken))), (4, .int (nI (itTo S.st taken S.ca)))]) (st' := [.int (nI (6)), .int (nI (6))]) (w2 := seaW 0 Q ++ saleW 3 S) rfl ?_
      refine ev_icmp_ge_n (tgt := 56) (by decide) (by decide) dX5_bound_24 (by decide) (fun h24 => ?_) (fun h24 => (by exfalso; omega))
      refine ev_b bX5_bound_56_58 (lv' := [(6, .int (nI (6))), (5, .int (nI (bdTo S (L.drop place) taken 6))), (0, .ref 0), (1, .ref 3), (2, .int (nI (place))), (3, .int (nI (taken))), (4, .int (nI (itTo S.st taken S.ca)))]) (st' := [.int (nI (bdTo S (L.drop place) taken 6))]) (w2 := seaW 0 Q ++ saleW 3 S) rfl ?_
      exact ev_iret dX5_bound_58 rfl (Nat.le_of_ble_eq_true rfl) (Nat.le_refl _) (Nat.le_refl _) ⟨rfl, rfl⟩
    | succ j_ ih20 =>
      intro k hk20  
      have hlt20 : k < 6 := by omega
      refine ev_b bX5_bound_20_24 (lv' := [(6, .int (nI (k))), (5, .int (nI (bdTo S (L.drop place) taken k))), (0, .ref 0), (1, .ref 3), (2, .int (nI (place))), (3, .int (nI (taken))), (4, .int (nI (itTo S.st taken S.ca)))]) (st' := [.int (nI (6)), .int (nI (k))]) (w2 := seaW 0 Q ++ saleW 3 S) rfl ?_
      refine ev_icmp_ge_n (tgt := 56) (by omega) (by decide) dX5_bound_24 (by decide) (fun h24 => (by exfalso; omega)) (fun h24 => ?_)
      refine ev_b bX5_bound_27_31 (lv' := [(6, .int (nI (k))), (5, .int (nI (bdTo S (L.drop place) taken k))), (0, .ref 0), (1, .ref 3), (2, .int (nI (place))), (3, .int (nI (taken))), (4, .int (nI (itTo S.st taken S.ca)))]) (st' := [.int (nI (k)), .int (nI (itTo S.st taken S.ca))]) (w2 := seaW 0 Q ++ saleW 3 S) rfl ?_
      refine ev_callSN (Yc := mX6_bitAt) [] dX5_bound_31 tn_563 kX6_bitAt (m_X6_bitAt (itTo S.st taken S.ca) k (by omega) (by omega)) rfl (st := []) rfl (by decide) rfl (by decide) (Nat.le_of_ble_eq_true rfl) (Nat.le_refl _) (Nat.le_refl _) (fun r w' h => by obtain ⟨-, rfl⟩ := h; exact Nat.le_of_ble_eq_true rfl) ?_
      rintro _ _ ⟨rfl, rfl⟩
      refine ev_eq (lv' := [(6, .int (nI (k))), (5, .int (nI (bdTo S (L.drop place) taken k))), (0, .ref 0), (1, .ref 3), (2, .int (nI (place))), (3, .int (nI (taken))), (4, .int (nI (itTo S.st taken S.ca)))]) (st' := [.int (nI (b01 ((itTo S.st taken S.ca).testBit k = true)))]) (w' := seaW 0 Q ++ saleW 3 S) rfl rfl rfl ?_
      refine ev_ifne_b (tgt := 50) dX5_bound_34 (by decide) (fun h34 => ?_) (fun h34 => ?_)
      · skip
        refine ev_iinc_n (x := k) (v := 1) dX5_bound_50 rfl (by decide) ?_
        refine ev_eq (lv' := [(6, .int (nI (k + 1))), (5, .int (nI (bdTo S (L.drop place) taken k))), (0, .ref 0), (1, .ref 3), (2, .int (nI (place))), (3, .int (nI (taken))), (4, .int (nI (itTo S.st taken S.ca)))]) rfl rfl rfl ?_
        refine ev_b bX5_bound_53_20 (lv' := [(6, .int (nI (k + 1))), (5, .int (nI (bdTo S (L.drop place) taken k))), (0, .ref 0), (1, .ref 3), (2, .int (nI (place))), (3, .int (nI (taken))), (4, .int (nI (itTo S.st taken S.ca)))]) (st' := []) (w2 := seaW 0 Q ++ saleW 3 S) rfl ?_
        rw [show nI (k + 1) = nI ((k + 1)) from congrArg nI (by omega)]
        rw [show nI (bdTo S (L.drop place) taken k) = nI (bdTo S (L.drop place) taken (k + 1)) from congrArg nI (by rw [bdTo_s]; first | (rw [if_pos h34]; rfl) | rw [if_neg h34])]
        exact ih20 (k + 1) (by omega) 
      · skip
        refine ev_b bX5_bound_37_44 (lv' := [(6, .int (nI (k))), (5, .int (nI (bdTo S (L.drop place) taken k))), (0, .ref 0), (1, .ref 3), (2, .int (nI (place))), (3, .int (nI (taken))), (4, .int (nI (itTo S.st taken S.ca)))]) (st' := [.int (nI (k)), .int (nI (place)), .ref 3, .ref 0, .int (nI (bdTo S (L.drop place) taken k))]) (w2 := seaW 0 Q ++ saleW 3 S) rfl ?_
        refine ev_callV (Yc := mX5_mostFor) (rng 0 11) dX5_bound_44 tw_649 kX5_mostFor (m_X5_mostFor Q S L place k hS hQ hp (by omega)) rfl (st := [.int (nI (bdTo S (L.drop place) taken k))]) rfl rfl rfl (by decide) (same_hw (seaW 0 Q ++ saleW 3 S)) (by decide) (Nat.le_of_ble_eq_true rfl) (Nat.le_refl _) (Nat.le_refl _) (fun r w' h => by obtain ⟨-, rfl⟩ := h; exact Nat.le_of_ble_eq_true rfl) ?_
        rintro _ _ ⟨rfl, rfl⟩
        refine ev_eq (lv' := [(6, .int (nI (k))), (5, .int (nI (bdTo S (L.drop place) taken k))), (0, .ref 0), (1, .ref 3), (2, .int (nI (place))), (3, .int (nI (taken))), (4, .int (nI (itTo S.st taken S.ca)))]) (st' := [.int (nI (mostF S k (L.drop place))), .int (nI (bdTo S (L.drop place) taken k))]) (w' := seaW 0 Q ++ saleW 3 S) rfl rfl (same_xp (seaW 0 Q ++ saleW 3 S) (seaW 0 Q ++ saleW 3 S) rfl) ?_
        refine ev_iadd_n dX5_bound_47 ?_
        refine ev_b bX5_bound_48_50 (lv' := [(5, .int (nI ((bdTo S (L.drop place) taken k) + (mostF S k (L.drop place))))), (6, .int (nI (k))), (0, .ref 0), (1, .ref 3), (2, .int (nI (place))), (3, .int (nI (taken))), (4, .int (nI (itTo S.st taken S.ca)))]) (st' := []) (w2 := seaW 0 Q ++ saleW 3 S) rfl ?_
        refine ev_iinc_n (x := k) (v := 1) dX5_bound_50 rfl (by decide) ?_
        refine ev_eq (lv' := [(6, .int (nI (k + 1))), (5, .int (nI ((bdTo S (L.drop place) taken k) + (mostF S k (L.drop place))))), (0, .ref 0), (1, .ref 3), (2, .int (nI (place))), (3, .int (nI (taken))), (4, .int (nI (itTo S.st taken S.ca)))]) rfl rfl rfl ?_
        refine ev_b bX5_bound_53_20 (lv' := [(6, .int (nI (k + 1))), (5, .int (nI ((bdTo S (L.drop place) taken k) + (mostF S k (L.drop place))))), (0, .ref 0), (1, .ref 3), (2, .int (nI (place))), (3, .int (nI (taken))), (4, .int (nI (itTo S.st taken S.ca)))]) (st' := []) (w2 := seaW 0 Q ++ saleW 3 S) rfl ?_
        rw [show nI (k + 1) = nI ((k + 1)) from congrArg nI (by omega)]
        rw [show nI ((bdTo S (L.drop place) taken k) + (mostF S k (L.drop place))) = nI (bdTo S (L.drop place) taken (k + 1)) from congrArg nI (by rw [bdTo_s]; first | (rw [if_pos h34]; rfl) | rw [if_neg h34])]
        exact ih20 (k + 1) (by omega) 
  refine ev_pick (lv' := [(6, .int (nI (0))), (5, .int (nI (60 * (prTo S.pr taken S.ca)))), (0, .ref 0), (1, .ref 3), (2, .int (nI (place))), (3, .int (nI (taken))), (4, .int (nI (itTo S.st taken S.ca)))]) rfl ?_
  rw [show nI (60 * (prTo S.pr taken S.ca)) = nI (bdTo S (L.drop place) taken 0) from congrArg nI (by exact rfl)]
  exact L20 6 0 (by omega) 
theorem bX5_find_0_2 {l : Launch} {E : XE} : Snd l E mX5_find 0 2 (xs [x_aload 1, x_iload 2]) := Snd.cons (snd_aload_n (i := 1) dX5_find_0 rfl) (Snd.cons (snd_iload_n (i := 2) dX5_find_1 rfl) Snd.nil)
theorem bX5_find_8_10 {l : Launch} {E : XE} : Snd l E mX5_find 8 10 (xs [x_aload 1, x_iload 2]) := Snd.cons (snd_aload_n (i := 1) dX5_find_8 rfl) (Snd.cons (snd_iload_n (i := 2) dX5_find_9 rfl) Snd.nil)
theorem bX5_find_13_16 {l : Launch} {E : XE} : Snd l E mX5_find 13 16 (xs [x_aload 1, x_aload 1, x_iload 2]) := Snd.cons (snd_aload_n (i := 1) dX5_find_13 rfl) (Snd.cons (snd_aload_n (i := 1) dX5_find_14 rfl) (Snd.cons (snd_iload_n (i := 2) dX5_find_15 rfl) Snd.nil))
theorem bX5_find_23_32 {l : Launch} {E : XE} : Snd l E mX5_find 23 32 (xs [x_istore 3, x_aload 0, x_aload 0, x_get 6 4, x_push (.int (nI 60)), x_iload 3]) := Snd.cons (snd_istore_n (i := 3) dX5_find_23 rfl (by decide)) (Snd.cons (snd_aload_n (i := 0) dX5_find_24 rfl) (Snd.cons (snd_aload_n (i := 0) dX5_find_25 rfl) (Snd.cons (snd_get (ci := 6) (k := 4) dX5_find_26 rfl inX5 (by decide) tw_142) (Snd.cons (snd_bipush (v := nI 60) dX5_find_29 (by decide)) (Snd.cons (snd_iload_n (i := 3) dX5_find_31 rfl) Snd.nil)))))
theorem bX5_find_36_39 {l : Launch} {E : XE} : Snd l E mX5_find 36 39 (xs [x_puti 6 4]) := Snd.cons (snd_puti (ci := 6) (k := 4) dX5_find_36 rfl inX5 tyX5_ok nmX5 (by decide) tw_142 rfl rfl) Snd.nil
set_option maxHeartbeats 4000000 in
set_option maxRecDepth 100000 in
theorem m_X5_find {l : Launch} {E : XE} (Q : SeaN) (S : SaleN) (taken : Nat) (hS : SaleOK S) (hf : Q.fd < 2147483648) (ht : taken < 1024) : MetE l E mX5_find (3) 0 0 [.ref 0, .ref 3, .int (nI (taken))] (seaW 0 Q ++ saleW 3 S) (fun r w' => r = none ∧ w' = seaW 0 ((setF Q (Q.lk, if allS S taken then max Q.fd (60 * worthN S taken) else Q.fd))) ++ saleW 3 S) := by
  refine MetE.of (by decide +kernel) (Nat.le_of_ble_eq_true rfl) ?_
  have hit : itTo S.st taken S.ca < 64 := itTo_lt S.ca (Nat.le_refl _) (fun k hk => (hS.2.2.1 k hk).2.2.1)
  have h1 := pr_le hS taken
  have h2 := rbTo_le (rs := S.rs) (items := itTo S.st taken S.ca) 6 (Nat.le_refl _) hS.2.2.2.2
  have h3 : worthN S taken ≤ 1044 := by unfold worthN; omega
  refine ev_eq (lv' := [(0, .ref 0), (1, .ref 3), (2, .int (nI (taken)))]) (st' := []) (w' := seaW 0 Q ++ saleW 3 S) rfl rfl rfl ?_
  refine ev_b bX5_find_0_2 (lv' := [(0, .ref 0), (1, .ref 3), (2, .int (nI (taken)))]) (st' := [.int (nI (taken)), .ref 3]) (w2 := seaW 0 Q ++ saleW 3 S) rfl ?_
  refine ev_callVN (Yc := mX3_allows) [3, 4, 5, 6, 7, 8, 9, 10] dX5_find_2 tn_661 kX3_allows (m_X3_allows S taken hS ht) rfl (st := []) rfl rfl rfl (by decide) hw_Sea0_Sale3__3 (by decide) (Nat.le_of_ble_eq_true rfl) (Nat.le_refl _) (Nat.le_refl _) (fun r w' h => by obtain ⟨-, rfl⟩ := h; exact Nat.le_of_ble_eq_true rfl) ?_
  rintro _ _ ⟨rfl, rfl⟩
  refine ev_eq (lv' := [(0, .ref 0), (1, .ref 3), (2, .int (nI (taken)))]) (st' := [.int (nI (b01 (allS S taken)))]) (w' := seaW 0 Q ++ saleW 3 S) rfl rfl xp_Sea0_Sale3__3 ?_
  refine ev_ifeq_b (tgt := 39) dX5_find_5 (by decide) (fun h5 => ?_) (fun h5 => ?_)
  · skip
    exact ev_vret dX5_find_39 rfl (Nat.le_of_ble_eq_true rfl) (Nat.le_refl _) (Nat.le_refl _) ⟨rfl, (by first | (rw [if_pos h5] <;> rfl) | (rw [if_neg h5] <;> rfl))⟩
  · skip
    refine ev_b bX5_find_8_10 (lv' := [(0, .ref 0), (1, .ref 3), (2, .int (nI (taken)))]) (st' := [.int (nI (taken)), .ref 3]) (w2 := seaW 0 Q ++ saleW 3 S) rfl ?_
    refine ev_callVN (Yc := mX3_pricesOf) [3, 4, 5, 6, 7, 8, 9, 10] dX5_find_10 tn_648 kX3_pricesOf (m_X3_pricesOf S taken hS (by omega)) rfl (st := []) rfl rfl rfl (by decide) hw_Sea0_Sale3__3 (by decide) (Nat.le_of_ble_eq_true rfl) (Nat.le_refl _) (Nat.le_refl _) (fun r w' h => by obtain ⟨-, rfl⟩ := h; exact Nat.le_of_ble_eq_true rfl) ?_
    rintro _ _ ⟨rfl, rfl⟩
    refine ev_eq (lv' := [(0, .ref 0), (1, .ref 3), (2, .int (nI (taken)))]) (st' := [.int (nI (prTo S.pr taken S.ca))]) (w' := seaW 0 Q ++ saleW 3 S) rfl rfl xp_Sea0_Sale3__3 ?_
    refine ev_b bX5_find_13_16 (lv' := [(0, .ref 0), (1, .ref 3), (2, .int (nI (taken)))]) (st' := [.int (nI (taken)), .ref 3, .ref 3, .int (nI (prTo S.pr taken S.ca))]) (w2 := seaW 0 Q ++ saleW 3 S) rfl ?_
    refine ev_callVN (Yc := mX3_itemsOf) [3, 4, 5, 6, 7, 8, 9, 10] dX5_find_16 tn_647 kX3_itemsOf (m_X3_itemsOf S taken hS (by omega)) rfl (st := [.ref 3, .int (nI (prTo S.pr taken S.ca))]) rfl rfl rfl (by decide) hw_Sea0_Sale3__3 (by decide) (Nat.le_of_ble_eq_true rfl) (Nat.le_refl _) (Nat.le_refl _) (fun r w' h => by obtain ⟨-, rfl⟩ := h; exact Nat.le_of_ble_eq_true rfl) ?_
    rintro _ _ ⟨rfl, rfl⟩
    refine ev_eq (lv' := [(0, .ref 0), (1, .ref 3), (2, .int (nI (taken)))]) (st' := [.int (nI (itTo S.st taken S.ca)), .ref 3, .int (nI (prTo S.pr taken S.ca))]) (w' := seaW 0 Q ++ saleW 3 S) rfl rfl xp_Sea0_Sale3__3 ?_
    refine ev_callVN (Yc := mX3_reservesBut) [3, 4, 5, 6, 7, 8, 9, 10] dX5_find_19 tn_662 kX3_reservesBut (m_X3_reservesBut S (itTo S.st taken S.ca) (by omega)) rfl (st := [.int (nI (prTo S.pr taken S.ca))]) rfl rfl rfl (by decide) hw_Sea0_Sale3__3 (by decide) (Nat.le_of_ble_eq_true rfl) (Nat.le_refl _) (Nat.le_refl _) (fun r w' h => by obtain ⟨-, rfl⟩ := h; exact Nat.le_of_ble_eq_true rfl) ?_
    rintro _ _ ⟨rfl, rfl⟩
    refine ev_eq (lv' := [(0, .ref 0), (1, .ref 3), (2, .int (nI (taken)))]) (st' := [.int (nI (rbTo S.rs (itTo S.st taken S.ca) 6)), .int (nI (prTo S.pr taken S.ca))]) (w' := seaW 0 Q ++ saleW 3 S) rfl rfl xp_Sea0_Sale3__3 ?_
    refine ev_iadd_n dX5_find_22 ?_
    refine ev_top (y := (nI (worthN S taken))) (congrArg nI (show (prTo S.pr taken S.ca) + (rbTo S.rs (itTo S.st taken S.ca) 6) = worthN S taken from by rfl)) ?_
    refine ev_b bX5_find_23_32 (lv' := [(3, .int (nI (worthN S taken))), (0, .ref 0), (1, .ref 3), (2, .int (nI (taken)))]) (st' := [.int (nI (worthN S taken)), .int (nI (60)), .int (nI (Q.fd)), .ref 0]) (w2 := seaW 0 Q ++ saleW 3 S) rfl ?_
    refine ev_imul_n dX5_find_32 ?_
    refine ev_max dX5_find_33 tw_654 tw_655 tw_15 tw_656 (by decide) (Nat.le_of_ble_eq_true rfl) (Nat.le_refl _) (Nat.le_refl _) ?_
    refine ev_top (n_max (by omega) (by omega)) ?_
    refine ev_b bX5_find_36_39 (lv' := [(3, .int (nI (worthN S taken))), (0, .ref 0), (1, .ref 3), (2, .int (nI (taken)))]) (st' := []) (w2 := seaW 0 ((Q.sh, Q.od, Q.ln, Q.lk, max Q.fd (60 * (worthN S taken))) : SeaN) ++ saleW 3 S) rfl ?_
    exact ev_vret dX5_find_39 rfl (Nat.le_of_ble_eq_true rfl) (Nat.le_refl _) (Nat.le_refl _) ⟨rfl, (by first | (rw [if_pos h5] <;> rfl) | (rw [if_neg h5] <;> rfl))⟩
theorem bX5_look_0_1 {l : Launch} {E : XE} : Snd l E mX5_look 0 1 (xs [x_iload 2]) := Snd.cons (snd_iload_n (i := 2) dX5_look_0 rfl) Snd.nil
theorem bX5_look_4_7 {l : Launch} {E : XE} : Snd l E mX5_look 4 7 (xs [x_iload 2, x_push (.int (nI 10))]) := Snd.cons (snd_iload_n (i := 2) dX5_look_4 rfl) (Snd.cons (snd_bipush (v := nI 10) dX5_look_5 (by decide)) Snd.nil)
theorem bX5_look_11_17 {l : Launch} {E : XE} : Snd l E mX5_look 11 17 (xs [x_aload 0, x_dup, x_get 6 3, x_push (.int (nI 1))]) := Snd.cons (snd_aload_n (i := 0) dX5_look_11 rfl) (Snd.cons (snd_dup dX5_look_12) (Snd.cons (snd_get (ci := 6) (k := 3) dX5_look_13 rfl inX5 (by decide) tw_141) (Snd.cons (snd_iconst (v := nI 1) dX5_look_16 (by decide)) Snd.nil)))
theorem bX5_look_18_25 {l : Launch} {E : XE} : Snd l E mX5_look 18 25 (xs [x_puti 6 3, x_aload 0, x_aload 1, x_iload 2, x_iload 3]) := Snd.cons (snd_puti (ci := 6) (k := 3) dX5_look_18 rfl inX5 tyX5_ok nmX5 (by decide) tw_141 rfl rfl) (Snd.cons (snd_aload_n (i := 0) dX5_look_21 rfl) (Snd.cons (snd_aload_n (i := 1) dX5_look_22 rfl) (Snd.cons (snd_iload_n (i := 2) dX5_look_23 rfl) (Snd.cons (snd_iload_n (i := 3) dX5_look_24 rfl) Snd.nil))))
theorem bX5_look_28_32 {l : Launch} {E : XE} : Snd l E mX5_look 28 32 (xs [x_aload 0, x_get 6 4]) := Snd.cons (snd_aload_n (i := 0) dX5_look_28 rfl) (Snd.cons (snd_get (ci := 6) (k := 4) dX5_look_29 rfl inX5 (by decide) tw_142) Snd.nil)
theorem bX5_look_36_41 {l : Launch} {E : XE} : Snd l E mX5_look 36 41 (xs [x_iload 2, x_aload 0, x_get 6 2]) := Snd.cons (snd_iload_n (i := 2) dX5_look_36 rfl) (Snd.cons (snd_aload_n (i := 0) dX5_look_37 rfl) (Snd.cons (snd_get (ci := 6) (k := 2) dX5_look_38 rfl inX5 (by decide) tw_140) Snd.nil))
theorem bX5_look_51_53 {l : Launch} {E : XE} : Snd l E mX5_look 51 53 (xs [x_aload 0, x_iload 2]) := Snd.cons (snd_aload_n (i := 0) dX5_look_51 rfl) (Snd.cons (snd_iload_n (i := 2) dX5_look_52 rfl) Snd.nil)
theorem bX5_look_56_61 {l : Launch} {E : XE} : Snd l E mX5_look 56 61 (xs [x_istore 4, x_aload 1, x_iload 4]) := Snd.cons (snd_istore dX5_look_56 (by decide)) (Snd.cons (snd_aload_n (i := 1) dX5_look_58 rfl) (Snd.cons (snd_iload dX5_look_59) Snd.nil))
theorem bX5_look_64_66 {l : Launch} {E : XE} : Snd l E mX5_look 64 66 (xs [x_aload 1, x_iload 3]) := Snd.cons (snd_aload_n (i := 1) dX5_look_64 rfl) (Snd.cons (snd_iload_n (i := 3) dX5_look_65 rfl) Snd.nil)
theorem bX5_look_87_91 {l : Launch} {E : XE} : Snd l E mX5_look 87 91 (xs [x_aload 0, x_aload 1, x_iload 2, x_push (.int (nI 1))]) := Snd.cons (snd_aload_n (i := 0) dX5_look_87 rfl) (Snd.cons (snd_aload_n (i := 1) dX5_look_88 rfl) (Snd.cons (snd_iload_n (i := 2) dX5_look_89 rfl) (Snd.cons (snd_iconst (v := nI 1) dX5_look_90 (by decide)) Snd.nil)))
theorem bX5_look_92_93 {l : Launch} {E : XE} : Snd l E mX5_look 92 93 (xs [x_iload 3]) := Snd.cons (snd_iload_n (i := 3) dX5_look_92 rfl) Snd.nil
theorem bX5_look_73_77 {l : Launch} {E : XE} : Snd l E mX5_look 73 77 (xs [x_aload 0, x_aload 1, x_iload 2, x_push (.int (nI 1))]) := Snd.cons (snd_aload_n (i := 0) dX5_look_73 rfl) (Snd.cons (snd_aload_n (i := 1) dX5_look_74 rfl) (Snd.cons (snd_iload_n (i := 2) dX5_look_75 rfl) (Snd.cons (snd_iconst (v := nI 1) dX5_look_76 (by decide)) Snd.nil)))
theorem bX5_look_78_82 {l : Launch} {E : XE} : Snd l E mX5_look 78 82 (xs [x_iload 3, x_push (.int (nI 1)), x_iload 4]) := Snd.cons (snd_iload_n (i := 3) dX5_look_78 rfl) (Snd.cons (snd_iconst (v := nI 1) dX5_look_79 (by decide)) (Snd.cons (snd_iload dX5_look_80) Snd.nil))
theorem bX5_look_44_47 {l : Launch} {E : XE} : Snd l E mX5_look 44 47 (xs [x_aload 0, x_aload 1, x_iload 3]) := Snd.cons (snd_aload_n (i := 0) dX5_look_44 rfl) (Snd.cons (snd_aload_n (i := 1) dX5_look_45 rfl) (Snd.cons (snd_iload_n (i := 3) dX5_look_46 rfl) Snd.nil))
set_option maxHeartbeats 4000000 in
set_option maxRecDepth 100000 in
theorem look_step {l : Launch} {E : XE} (d : Nat) (Q : SeaN) (S : SaleN) (L : List Nat) (place taken : Nat) (hS : SaleOK S) (hQ : SeaOK Q S L) (hp : place ≤ L.length) (ht : taken < 2 ^ S.ca) (hd : 4 ≤ d) (ih : place < L.length → ∀ (Q2 : SeaN) (t2 : Nat), SeaOK Q2 S L → t2 < 2 ^ S.ca → MetE l E mX5_look d 0 0 [.ref 0, .ref 3, .int (nI (place + 1)), .int (nI t2)] (seaW 0 Q2 ++ saleW 3 S) (fun r w' => r = none ∧ w' = seaW 0 (setF Q2 (lookL S (L.drop (place + 1)) t2 (Q2.lk, Q2.fd))) ++ saleW 3 S)) : MetE l E mX5_look (d + 1) 0 0 [.ref 0, .ref 3, .int (nI (place)), .int (nI (taken))] (seaW 0 Q ++ saleW 3 S) (fun r w' => r = none ∧ w' = seaW 0 (setF Q (lookL S (L.drop place) taken (Q.lk, Q.fd))) ++ saleW 3 S) := by
  refine MetE.of (by decide +kernel) (Nat.le_of_ble_eq_true rfl) ?_
  have hca := hS.1
  have hpw := pow_ca hS
  have hln := hQ.1
  have hl10 := hQ.2.1
  have hfd := hQ.2.2.2.2
  have hit : itTo S.st taken S.ca < 64 := itTo_lt S.ca (Nat.le_refl _) (fun k hk => (hS.2.2.1 k hk).2.2.1)
  have hbd := bdTo_le hS (L := L.drop place) (fun x hx => (hQ.2.2.2.1 x (List.mem_of_mem_drop hx)).1) (taken := taken) 6 (Nat.le_refl _)
  have hQ1 : SeaOK ((Q.sh, Q.od, Q.ln, Q.lk + 1, Q.fd) : SeaN) S L := ⟨hQ.1, hQ.2.1, hQ.2.2.1, hQ.2.2.2.1, hQ.2.2.2.2⟩
  refine ev_eq (lv' := [(0, .ref 0), (1, .ref 3), (2, .int (nI (place))), (3, .int (nI (taken)))]) (st' := []) (w' := seaW 0 Q ++ saleW 3 S) rfl rfl rfl ?_
  refine ev_b bX5_look_0_1 (lv' := [(0, .ref 0), (1, .ref 3), (2, .int (nI (place))), (3, .int (nI (taken)))]) (st' := [.int (nI (place))]) (w2 := seaW 0 Q ++ saleW 3 S) rfl ?_
  refine ev_if_lt_n (tgt := 10) (by omega) dX5_look_1 (by decide) (fun h1 => (by exfalso; omega)) (fun h1 => ?_)
  refine ev_b bX5_look_4_7 (lv' := [(0, .ref 0), (1, .ref 3), (2, .int (nI (place))), (3, .int (nI (taken)))]) (st' := [.int (nI (10)), .int (nI (place))]) (w2 := seaW 0 Q ++ saleW 3 S) rfl ?_
  refine ev_icmp_le_n (tgt := 11) (by omega) (by decide) dX5_look_7 (by decide) (fun h7 => ?_) (fun h7 => (by exfalso; omega))
  refine ev_b bX5_look_11_17 (lv' := [(0, .ref 0), (1, .ref 3), (2, .int (nI (place))), (3, .int (nI (taken)))]) (st' := [.int (nI (1)), .int (nI (Q.lk)), .ref 0]) (w2 := seaW 0 Q ++ saleW 3 S) rfl ?_
  refine ev_iadd_n dX5_look_17 ?_
  refine ev_b bX5_look_18_25 (lv' := [(0, .ref 0), (1, .ref 3), (2, .int (nI (place))), (3, .int (nI (taken)))]) (st' := [.int (nI (taken)), .int (nI (place)), .ref 3, .ref 0]) (w2 := seaW 0 ((Q.sh, Q.od, Q.ln, Q.lk + 1, Q.fd) : SeaN) ++ saleW 3 S) rfl ?_
  refine ev_callV (Yc := mX5_bound) (rng 0 11) dX5_look_25 tw_643 kX5_bound (m_X5_bound ((Q.sh, Q.od, Q.ln, Q.lk + 1, Q.fd) : SeaN) S L place taken hS hQ1 hp (by omega)) rfl (st := []) rfl rfl rfl (by decide) (same_hw (seaW 0 ((Q.sh, Q.od, Q.ln, Q.lk + 1, Q.fd) : SeaN) ++ saleW 3 S)) (by omega) (Nat.le_of_ble_eq_true rfl) (Nat.le_refl _) (Nat.le_refl _) (fun r w' h => by obtain ⟨-, rfl⟩ := h; exact Nat.le_of_ble_eq_true rfl) ?_
  rintro _ _ ⟨rfl, rfl⟩
  refine ev_eq (lv' := [(0, .ref 0), (1, .ref 3), (2, .int (nI (place))), (3, .int (nI (taken)))]) (st' := [.int (nI (bdTo S (L.drop place) taken 6))]) (w' := seaW 0 ((Q.sh, Q.od, Q.ln, Q.lk + 1, Q.fd) : SeaN) ++ saleW 3 S) rfl rfl (same_xp (seaW 0 ((Q.sh, Q.od, Q.ln, Q.lk + 1, Q.fd) : SeaN) ++ saleW 3 S) (seaW 0 ((Q.sh, Q.od, Q.ln, Q.lk + 1, Q.fd) : SeaN) ++ saleW 3 S) rfl) ?_
  refine ev_b bX5_look_28_32 (lv' := [(0, .ref 0), (1, .ref 3), (2, .int (nI (place))), (3, .int (nI (taken)))]) (st' := [.int (nI (Q.fd)), .int (nI (bdTo S (L.drop place) taken 6))]) (w2 := seaW 0 ((Q.sh, Q.od, Q.ln, Q.lk + 1, Q.fd) : SeaN) ++ saleW 3 S) rfl ?_
  refine ev_icmp_ge_n (tgt := 36) (by omega) (by omega) dX5_look_32 (by decide) (fun h32 => ?_) (fun h32 => ?_)
  · skip
    replace h32 : ¬ bdTo S (L.drop place) taken 6 < (Q.lk, Q.fd).2 := Nat.not_lt.mpr h32
    refine ev_b bX5_look_36_41 (lv' := [(0, .ref 0), (1, .ref 3), (2, .int (nI (place))), (3, .int (nI (taken)))]) (st' := [.int (nI (Q.ln)), .int (nI (place))]) (w2 := seaW 0 ((Q.sh, Q.od, Q.ln, Q.lk + 1, Q.fd) : SeaN) ++ saleW 3 S) rfl ?_
    refine ev_icmp_lt_n (tgt := 51) (by omega) (by omega) dX5_look_41 (by decide) (fun h41 => ?_) (fun h41 => ?_)
    · skip
      replace h41 : place < L.length := by rw [← hln]; exact h41
      obtain ⟨m, em, eo, emc, esh, -⟩ := sea_at hQ (p := place) h41
      obtain ⟨-, k1, k2, k3⟩ := hS.2.2.1 m emc
      have hdr := drop_get em
      rw [← eo] at emc k2 hdr
      refine ev_b bX5_look_51_53 (lv' := [(0, .ref 0), (1, .ref 3), (2, .int (nI (place))), (3, .int (nI (taken)))]) (st' := [.int (nI (place)), .ref 0]) (w2 := seaW 0 ((Q.sh, Q.od, Q.ln, Q.lk + 1, Q.fd) : SeaN) ++ saleW 3 S) rfl ?_
      refine ev_callV (Yc := mX5_bidAt) [0, 1, 2] dX5_look_53 tw_576 kX5_bidAt (m_X5_bidAt ((Q.sh, Q.od, Q.ln, Q.lk + 1, Q.fd) : SeaN) place (by show place < Q.ln; omega) (by show Q.ln ≤ 10; omega)) rfl (st := []) rfl rfl rfl (by decide) hw_Sea0_Sale3__0 (by omega) (Nat.le_of_ble_eq_true rfl) (Nat.le_refl _) (Nat.le_refl _) (fun r w' h => by obtain ⟨-, rfl⟩ := h; exact Nat.le_of_ble_eq_true rfl) ?_
      rintro _ _ ⟨rfl, rfl⟩
      refine ev_eq (lv' := [(0, .ref 0), (1, .ref 3), (2, .int (nI (place))), (3, .int (nI (taken)))]) (st' := [.int (nI (Q.od place))]) (w' := seaW 0 ((Q.sh, Q.od, Q.ln, Q.lk + 1, Q.fd) : SeaN) ++ saleW 3 S) rfl rfl xp_Sea0_Sale3__0 ?_
      refine ev_b bX5_look_56_61 (lv' := [(4, .int (nI (Q.od place))), (0, .ref 0), (1, .ref 3), (2, .int (nI (place))), (3, .int (nI (taken)))]) (st' := [.int (nI (Q.od place)), .ref 3]) (w2 := seaW 0 ((Q.sh, Q.od, Q.ln, Q.lk + 1, Q.fd) : SeaN) ++ saleW 3 S) rfl ?_
      refine ev_callVN (Yc := mX3_setOf) [3, 4, 5, 6, 7, 8, 9, 10] dX5_look_61 tn_560 kX3_setOf (m_X3_setOf S (Q.od place) hS emc) rfl (st := []) rfl rfl rfl (by decide) hw_Sea0_Sale3__3 (by omega) (Nat.le_of_ble_eq_true rfl) (Nat.le_refl _) (Nat.le_refl _) (fun r w' h => by obtain ⟨-, rfl⟩ := h; exact Nat.le_of_ble_eq_true rfl) ?_
      rintro _ _ ⟨rfl, rfl⟩
      refine ev_eq (lv' := [(4, .int (nI (Q.od place))), (0, .ref 0), (1, .ref 3), (2, .int (nI (place))), (3, .int (nI (taken)))]) (st' := [.int (nI (S.st (Q.od place)))]) (w' := seaW 0 ((Q.sh, Q.od, Q.ln, Q.lk + 1, Q.fd) : SeaN) ++ saleW 3 S) rfl rfl xp_Sea0_Sale3__3 ?_
      refine ev_b bX5_look_64_66 (lv' := [(4, .int (nI (Q.od place))), (0, .ref 0), (1, .ref 3), (2, .int (nI (place))), (3, .int (nI (taken)))]) (st' := [.int (nI (taken)), .ref 3, .int (nI (S.st (Q.od place)))]) (w2 := seaW 0 ((Q.sh, Q.od, Q.ln, Q.lk + 1, Q.fd) : SeaN) ++ saleW 3 S) rfl ?_
      refine ev_callVN (Yc := mX3_itemsOf) [3, 4, 5, 6, 7, 8, 9, 10] dX5_look_66 tn_647 kX3_itemsOf (m_X3_itemsOf S taken hS (by omega)) rfl (st := [.int (nI (S.st (Q.od place)))]) rfl rfl rfl (by decide) hw_Sea0_Sale3__3 (by omega) (Nat.le_of_ble_eq_true rfl) (Nat.le_refl _) (Nat.le_refl _) (fun r w' h => by obtain ⟨-, rfl⟩ := h; exact Nat.le_of_ble_eq_true rfl) ?_
      rintro _ _ ⟨rfl, rfl⟩
      refine ev_eq (lv' := [(4, .int (nI (Q.od place))), (0, .ref 0), (1, .ref 3), (2, .int (nI (place))), (3, .int (nI (taken)))]) (st' := [.int (nI (itTo S.st taken S.ca)), .int (nI (S.st (Q.od place)))]) (w' := seaW 0 ((Q.sh, Q.od, Q.ln, Q.lk + 1, Q.fd) : SeaN) ++ saleW 3 S) rfl rfl xp_Sea0_Sale3__3 ?_
      refine ev_iand_n dX5_look_69 ?_
      refine ev_if_ne_n (tgt := 87) (by exact Nat.lt_of_le_of_lt Nat.and_le_left (by omega)) dX5_look_70 (by decide) (fun h70 => ?_) (fun h70 => ?_)
      · skip
        have hQf : SeaOK ((Q.sh, Q.od, Q.ln, Q.lk + 1, Q.fd) : SeaN) S L := hQ1
        refine ev_b bX5_look_87_91 (lv' := [(4, .int (nI (Q.od place))), (0, .ref 0), (1, .ref 3), (2, .int (nI (place))), (3, .int (nI (taken)))]) (st' := [.int (nI (1)), .int (nI (place)), .ref 3, .ref 0]) (w2 := seaW 0 ((Q.sh, Q.od, Q.ln, Q.lk + 1, Q.fd) : SeaN) ++ saleW 3 S) rfl ?_
        refine ev_iadd_n dX5_look_91 ?_
        refine ev_b bX5_look_92_93 (lv' := [(4, .int (nI (Q.od place))), (0, .ref 0), (1, .ref 3), (2, .int (nI (place))), (3, .int (nI (taken)))]) (st' := [.int (nI (taken)), .int (nI (place + 1)), .ref 3, .ref 0]) (w2 := seaW 0 ((Q.sh, Q.od, Q.ln, Q.lk + 1, Q.fd) : SeaN) ++ saleW 3 S) rfl ?_
        refine ev_callS (Yc := mX5_look) (rng 0 11) dX5_look_93 tw_640 kX5_look (ih h41 _ taken hQf ht) rfl (st := []) rfl (by decide) (same_hw (seaW 0 ((Q.sh, Q.od, Q.ln, Q.lk + 1, Q.fd) : SeaN) ++ saleW 3 S)) (by omega) (Nat.le_of_ble_eq_true rfl) (Nat.le_refl _) (Nat.le_refl _) (fun r w' h => by obtain ⟨-, rfl⟩ := h; exact Nat.le_of_ble_eq_true rfl) ?_
        rintro _ _ ⟨rfl, rfl⟩
        refine ev_eq (lv' := [(4, .int (nI (Q.od place))), (0, .ref 0), (1, .ref 3), (2, .int (nI (place))), (3, .int (nI (taken)))]) (st' := []) (w' := seaW 0 ((setF Q (lookL S (L.drop place) taken (Q.lk, Q.fd)))) ++ saleW 3 S) rfl rfl (by rw [look_cons hdr h32]; first | (rw [if_pos h70] <;> rfl) | (rw [if_neg h70] <;> rfl)) ?_
        exact ev_vret dX5_look_96 rfl (Nat.le_of_ble_eq_true rfl) (Nat.le_refl _) (Nat.le_refl _) ⟨rfl, rfl⟩
      · skip
        have hQf : SeaOK (setF ((Q.sh, Q.od, Q.ln, Q.lk + 1, Q.fd) : SeaN) (lookL S (L.drop (place + 1)) (taken ||| 1 <<< Q.od place) (Q.lk + 1, Q.fd))) S L := hQ1.setF (lookL_lt hS _ _ _ hfd)
        refine ev_b bX5_look_73_77 (lv' := [(4, .int (nI (Q.od place))), (0, .ref 0), (1, .ref 3), (2, .int (nI (place))), (3, .int (nI (taken)))]) (st' := [.int (nI (1)), .int (nI (place)), .ref 3, .ref 0]) (w2 := seaW 0 ((Q.sh, Q.od, Q.ln, Q.lk + 1, Q.fd) : SeaN) ++ saleW 3 S) rfl ?_
        refine ev_iadd_n dX5_look_77 ?_
        refine ev_b bX5_look_78_82 (lv' := [(4, .int (nI (Q.od place))), (0, .ref 0), (1, .ref 3), (2, .int (nI (place))), (3, .int (nI (taken)))]) (st' := [.int (nI (Q.od place)), .int (nI (1)), .int (nI (taken)), .int (nI (place + 1)), .ref 3, .ref 0]) (w2 := seaW 0 ((Q.sh, Q.od, Q.ln, Q.lk + 1, Q.fd) : SeaN) ++ saleW 3 S) rfl ?_
        refine ev_ishl_n (by omega) dX5_look_82 ?_
        refine ev_ior_n dX5_look_83 ?_
        refine ev_callS (Yc := mX5_look) (rng 0 11) dX5_look_84 tw_640 kX5_look (ih h41 ((Q.sh, Q.od, Q.ln, Q.lk + 1, Q.fd) : SeaN) (taken ||| 1 <<< Q.od place) hQ1 (or_lt ht (shl_lt emc))) rfl (st := []) rfl (by decide) (same_hw (seaW 0 ((Q.sh, Q.od, Q.ln, Q.lk + 1, Q.fd) : SeaN) ++ saleW 3 S)) (by omega) (Nat.le_of_ble_eq_true rfl) (Nat.le_refl _) (Nat.le_refl _) (fun r w' h => by obtain ⟨-, rfl⟩ := h; exact Nat.le_of_ble_eq_true rfl) ?_
        rintro _ _ ⟨rfl, rfl⟩
        refine ev_eq (lv' := [(4, .int (nI (Q.od place))), (0, .ref 0), (1, .ref 3), (2, .int (nI (place))), (3, .int (nI (taken)))]) (st' := []) (w' := seaW 0 ((setF ((Q.sh, Q.od, Q.ln, Q.lk + 1, Q.fd) : SeaN) (lookL S (L.drop (place + 1)) (taken ||| 1 <<< Q.od place) (Q.lk + 1, Q.fd)))) ++ saleW 3 S) rfl rfl (same_xp (seaW 0 ((Q.sh, Q.od, Q.ln, Q.lk + 1, Q.fd) : SeaN) ++ saleW 3 S) (seaW 0 ((setF ((Q.sh, Q.od, Q.ln, Q.lk + 1, Q.fd) : SeaN) (lookL S (L.drop (place + 1)) (taken ||| 1 <<< Q.od place) (Q.lk + 1, Q.fd)))) ++ saleW 3 S) rfl) ?_
        refine ev_b bX5_look_87_91 (lv' := [(4, .int (nI (Q.od place))), (0, .ref 0), (1, .ref 3), (2, .int (nI (place))), (3, .int (nI (taken)))]) (st' := [.int (nI (1)), .int (nI (place)), .ref 3, .ref 0]) (w2 := seaW 0 ((setF ((Q.sh, Q.od, Q.ln, Q.lk + 1, Q.fd) : SeaN) (lookL S (L.drop (place + 1)) (taken ||| 1 <<< Q.od place) (Q.lk + 1, Q.fd)))) ++ saleW 3 S) rfl ?_
        refine ev_iadd_n dX5_look_91 ?_
        refine ev_b bX5_look_92_93 (lv' := [(4, .int (nI (Q.od place))), (0, .ref 0), (1, .ref 3), (2, .int (nI (place))), (3, .int (nI (taken)))]) (st' := [.int (nI (taken)), .int (nI (place + 1)), .ref 3, .ref 0]) (w2 := seaW 0 ((setF ((Q.sh, Q.od, Q.ln, Q.lk + 1, Q.fd) : SeaN) (lookL S (L.drop (place + 1)) (taken ||| 1 <<< Q.od place) (Q.lk + 1, Q.fd)))) ++ saleW 3 S) rfl ?_
        refine ev_callS (Yc := mX5_look) (rng 0 11) dX5_look_93 tw_640 kX5_look (ih h41 _ taken hQf ht) rfl (st := []) rfl (by decide) (same_hw (seaW 0 ((setF ((Q.sh, Q.od, Q.ln, Q.lk + 1, Q.fd) : SeaN) (lookL S (L.drop (place + 1)) (taken ||| 1 <<< Q.od place) (Q.lk + 1, Q.fd)))) ++ saleW 3 S)) (by omega) (Nat.le_of_ble_eq_true rfl) (Nat.le_refl _) (Nat.le_refl _) (fun r w' h => by obtain ⟨-, rfl⟩ := h; exact Nat.le_of_ble_eq_true rfl) ?_
        rintro _ _ ⟨rfl, rfl⟩
        refine ev_eq (lv' := [(4, .int (nI (Q.od place))), (0, .ref 0), (1, .ref 3), (2, .int (nI (place))), (3, .int (nI (taken)))]) (st' := []) (w' := seaW 0 ((setF Q (lookL S (L.drop place) taken (Q.lk, Q.fd)))) ++ saleW 3 S) rfl rfl (by rw [look_cons hdr h32]; first | (rw [if_pos h70] <;> rfl) | (rw [if_neg h70] <;> rfl)) ?_
        exact ev_vret dX5_look_96 rfl (Nat.le_of_ble_eq_true rfl) (Nat.le_refl _) (Nat.le_refl _) ⟨rfl, rfl⟩
    · skip
      have hdr : L.drop place = [] := List.drop_of_length_le (by omega)
      refine ev_b bX5_look_44_47 (lv' := [(0, .ref 0), (1, .ref 3), (2, .int (nI (place))), (3, .int (nI (taken)))]) (st' := [.int (nI (taken)), .ref 3, .ref 0]) (w2 := seaW 0 ((Q.sh, Q.od, Q.ln, Q.lk + 1, Q.fd) : SeaN) ++ saleW 3 S) rfl ?_
      refine ev_callV (Yc := mX5_find) (rng 0 11) dX5_look_47 tw_657 kX5_find (m_X5_find ((Q.sh, Q.od, Q.ln, Q.lk + 1, Q.fd) : SeaN) S taken hS hfd (by omega)) rfl (st := []) rfl rfl rfl (by decide) (same_hw (seaW 0 ((Q.sh, Q.od, Q.ln, Q.lk + 1, Q.fd) : SeaN) ++ saleW 3 S)) (by omega) (Nat.le_of_ble_eq_true rfl) (Nat.le_refl _) (Nat.le_refl _) (fun r w' h => by obtain ⟨-, rfl⟩ := h; exact Nat.le_of_ble_eq_true rfl) ?_
      rintro _ _ ⟨rfl, rfl⟩
      refine ev_eq (lv' := [(0, .ref 0), (1, .ref 3), (2, .int (nI (place))), (3, .int (nI (taken)))]) (st' := []) (w' := seaW 0 ((setF ((Q.sh, Q.od, Q.ln, Q.lk + 1, Q.fd) : SeaN) (Q.lk + 1, if allS S taken then max Q.fd (60 * worthN S taken) else Q.fd))) ++ saleW 3 S) rfl rfl (same_xp (seaW 0 ((Q.sh, Q.od, Q.ln, Q.lk + 1, Q.fd) : SeaN) ++ saleW 3 S) (seaW 0 ((setF ((Q.sh, Q.od, Q.ln, Q.lk + 1, Q.fd) : SeaN) (Q.lk + 1, if allS S taken then max Q.fd (60 * worthN S taken) else Q.fd))) ++ saleW 3 S) rfl) ?_
      exact ev_vret dX5_look_50 rfl (Nat.le_of_ble_eq_true rfl) (Nat.le_refl _) (Nat.le_refl _) ⟨rfl, by rw [look_nil hdr h32] <;> rfl⟩
  · skip
    have h32b : bdTo S (L.drop place) taken 6 < Q.fd := Nat.not_le.mp h32
    exact ev_vret dX5_look_35 rfl (Nat.le_of_ble_eq_true rfl) (Nat.le_refl _) (Nat.le_refl _) ⟨rfl, by rw [look_low h32b] <;> rfl⟩
/-- the search from a branch on -/
theorem m_look {l : Launch} {E : XE} {S : SaleN} {L : List Nat} (hS : SaleOK S) : ∀ (n place : Nat), place + n = L.length → ∀ (Q : SeaN) (taken : Nat), SeaOK Q S L → taken < 2 ^ S.ca → MetE l E mX5_look (4 + n + 1) 0 0 [.ref 0, .ref 3, .int (nI place), .int (nI taken)] (seaW 0 Q ++ saleW 3 S) (fun r w' => r = none ∧ w' = seaW 0 (setF Q (lookL S (L.drop place) taken (Q.lk, Q.fd))) ++ saleW 3 S)
  | 0, place, hp, Q, taken, hQ, ht => look_step _ Q S L place taken hS hQ (by omega) ht (by omega) (fun h => absurd h (by omega))
  | n + 1, place, hp, Q, taken, hQ, ht => look_step _ Q S L place taken hS hQ (by omega) ht (by omega) (fun _ Q2 t2 h2 h3 => m_look hS n (place + 1) (by omega) Q2 t2 h2 h3)
theorem bX5_branchesOf_0_2 {l : Launch} {E : XE} : Snd l E mX5_branchesOf 0 2 (xs [x_aload 0, x_aload 1]) := Snd.cons (snd_aload_n (i := 0) dX5_branchesOf_0 rfl) (Snd.cons (snd_aload_n (i := 1) dX5_branchesOf_1 rfl) Snd.nil)
theorem bX5_branchesOf_5_19 {l : Launch} {E : XE} : Snd l E mX5_branchesOf 5 19 (xs [x_aload 0, x_push (.int (nI 0)), x_puti 6 3, x_aload 0, x_push (.int (nI 0)), x_puti 6 4, x_aload 0, x_aload 1, x_push (.int (nI 0)), x_push (.int (nI 0))]) := Snd.cons (snd_aload_n (i := 0) dX5_branchesOf_5 rfl) (Snd.cons (snd_iconst (v := nI 0) dX5_branchesOf_6 (by decide)) (Snd.cons (snd_puti (ci := 6) (k := 3) dX5_branchesOf_7 rfl inX5 tyX5_ok nmX5 (by decide) tw_141 rfl rfl) (Snd.cons (snd_aload_n (i := 0) dX5_branchesOf_10 rfl) (Snd.cons (snd_iconst (v := nI 0) dX5_branchesOf_11 (by decide)) (Snd.cons (snd_puti (ci := 6) (k := 4) dX5_branchesOf_12 rfl inX5 tyX5_ok nmX5 (by decide) tw_142 rfl rfl) (Snd.cons (snd_aload_n (i := 0) dX5_branchesOf_15 rfl) (Snd.cons (snd_aload_n (i := 1) dX5_branchesOf_16 rfl) (Snd.cons (snd_iconst (v := nI 0) dX5_branchesOf_17 (by decide)) (Snd.cons (snd_iconst (v := nI 0) dX5_branchesOf_18 (by decide)) Snd.nil)))))))))
theorem bX5_branchesOf_22_26 {l : Launch} {E : XE} : Snd l E mX5_branchesOf 22 26 (xs [x_aload 0, x_get 6 3]) := Snd.cons (snd_aload_n (i := 0) dX5_branchesOf_22 rfl) (Snd.cons (snd_get (ci := 6) (k := 3) dX5_branchesOf_23 rfl inX5 (by decide) tw_141) Snd.nil)
set_option maxHeartbeats 4000000 in
set_option maxRecDepth 100000 in
theorem m_X5_branchesOf {l : Launch} {E : XE} (Q : SeaN) (S : SaleN) (hS : SaleOK S) (hf : Q.fd < 2147483648) : MetE l E mX5_branchesOf (17) 0 0 [.ref 0, .ref 3] (seaW 0 Q ++ saleW 3 S) (fun r w' => r = some (.int (nI (lookL S (ordN S S.ca) 0 (0, 0)).1)) ∧ ∃ Q' : SeaN, w' = seaW 0 Q' ++ saleW 3 S ∧ Q'.fd < 2147483648) := by
  refine MetE.of (by decide +kernel) (Nat.le_of_ble_eq_true rfl) ?_
  refine ev_eq (lv' := [(0, .ref 0), (1, .ref 3)]) (st' := []) (w' := seaW 0 Q ++ saleW 3 S) rfl rfl rfl ?_
  refine ev_b bX5_branchesOf_0_2 (lv' := [(0, .ref 0), (1, .ref 3)]) (st' := [.ref 3, .ref 0]) (w2 := seaW 0 Q ++ saleW 3 S) rfl ?_
  refine ev_callV (Yc := mX5_lineUp) (rng 0 11) dX5_branchesOf_2 tw_639 kX5_lineUp (m_X5_lineUp Q S hS hf) rfl (st := []) rfl rfl rfl (by decide) (same_hw (seaW 0 Q ++ saleW 3 S)) (by decide) (Nat.le_of_ble_eq_true rfl) (Nat.le_refl _) (Nat.le_refl _) (fun r w' h => by obtain ⟨-, Q3, rfl, -⟩ := h; exact Nat.le_of_ble_eq_true rfl) ?_
  rintro _ _ ⟨rfl, Q3, rfl, hQ3, -, -⟩
  refine ev_eq (lv' := [(0, .ref 0), (1, .ref 3)]) (st' := []) (w' := seaW 0 Q3 ++ saleW 3 S) rfl rfl (same_xp (seaW 0 Q ++ saleW 3 S) (seaW 0 Q3 ++ saleW 3 S) rfl) ?_
  refine ev_b bX5_branchesOf_5_19 (lv' := [(0, .ref 0), (1, .ref 3)]) (st' := [.int (nI (0)), .int (nI (0)), .ref 3, .ref 0]) (w2 := seaW 0 ((Q3.sh, Q3.od, Q3.ln, 0, 0) : SeaN) ++ saleW 3 S) rfl ?_
  refine ev_callS (Yc := mX5_look) (rng 0 11) dX5_branchesOf_19 tw_640 kX5_look (m_look hS (ordN S S.ca).length 0 (Nat.zero_add _) (Q3.sh, Q3.od, Q3.ln, 0, 0) 0 ⟨hQ3.1, hQ3.2.1, hQ3.2.2.1, hQ3.2.2.2.1, by show 0 < 2147483648; decide⟩ (Nat.two_pow_pos _)) rfl (st := []) rfl (by decide) (same_hw (seaW 0 ((Q3.sh, Q3.od, Q3.ln, 0, 0) : SeaN) ++ saleW 3 S)) (by have := hQ3.2.1; omega) (Nat.le_of_ble_eq_true rfl) (Nat.le_refl _) (Nat.le_refl _) (fun r w' h => by obtain ⟨-, rfl⟩ := h; exact Nat.le_of_ble_eq_true rfl) ?_
  rintro _ _ ⟨rfl, rfl⟩
  refine ev_eq (lv' := [(0, .ref 0), (1, .ref 3)]) (st' := []) (w' := seaW 0 ((setF ((Q3.sh, Q3.od, Q3.ln, 0, 0) : SeaN) (lookL S (ordN S S.ca) 0 (0, 0)))) ++ saleW 3 S) rfl rfl (same_xp (seaW 0 ((Q3.sh, Q3.od, Q3.ln, 0, 0) : SeaN) ++ saleW 3 S) (seaW 0 ((setF ((Q3.sh, Q3.od, Q3.ln, 0, 0) : SeaN) (lookL S (ordN S S.ca) 0 (0, 0)))) ++ saleW 3 S) rfl) ?_
  refine ev_b bX5_branchesOf_22_26 (lv' := [(0, .ref 0), (1, .ref 3)]) (st' := [.int (nI (SeaN.lk ((setF ((Q3.sh, Q3.od, Q3.ln, 0, 0) : SeaN) (lookL S (ordN S S.ca) 0 (0, 0))))))]) (w2 := seaW 0 ((setF ((Q3.sh, Q3.od, Q3.ln, 0, 0) : SeaN) (lookL S (ordN S S.ca) 0 (0, 0)))) ++ saleW 3 S) rfl ?_
  exact ev_iret dX5_branchesOf_26 rfl (Nat.le_of_ble_eq_true rfl) (Nat.le_refl _) (Nat.le_refl _) ⟨rfl, _, rfl, lookL_lt hS _ _ _ (by decide)⟩
