/-- what the bids of a SHILL gain, up to number k -/
def shZ (A : SaleN) (W : Nat) : Nat → Int
  | 0 => 0
  | k + 1 => if W.testBit k = true then shZ A W k + (((A.pr k : Nat) : Int) - (((winW A (andn 1023 (1 <<< k)) : Nat) : Int) - (((winW A 1023 : Nat) : Int) - ((A.pr k : Nat) : Int)))) else shZ A W k
theorem shZ_s {A : SaleN} {W k : Nat} : shZ A W (k + 1) = if W.testBit k = true then shZ A W k + (((A.pr k : Nat) : Int) - (((winW A (andn 1023 (1 <<< k)) : Nat) : Int) - (((winW A 1023 : Nat) : Int) - ((A.pr k : Nat) : Int)))) else shZ A W k := rfl

theorem bX6_tight_0_5 {l : Launch} {E : XE} : Snd l E mX6_tight 0 5 (xs [x_aload 0, x_aload 0, x_get 7 0]) := Snd.cons (snd_aload_n (i := 0) dX6_tight_0 rfl) (Snd.cons (snd_aload_n (i := 0) dX6_tight_1 rfl) (Snd.cons (snd_get (ci := 7) (k := 0) dX6_tight_2 rfl inX6 (by decide) tw_207) Snd.nil))
theorem bX6_tight_8_13 {l : Launch} {E : XE} : Snd l E mX6_tight 8 13 (xs [x_istore 1, x_push (.int (nI 0)), x_istore 2, x_push (.int (nI 0)), x_istore 3]) := Snd.cons (snd_istore_n (i := 1) dX6_tight_8 rfl (by decide)) (Snd.cons (snd_iconst (v := nI 0) dX6_tight_9 (by decide)) (Snd.cons (snd_istore_n (i := 2) dX6_tight_10 rfl (by decide)) (Snd.cons (snd_iconst (v := nI 0) dX6_tight_11 (by decide)) (Snd.cons (snd_istore_n (i := 3) dX6_tight_12 rfl (by decide)) Snd.nil))))
theorem bX6_tight_13_21 {l : Launch} {E : XE} : Snd l E mX6_tight 13 21 (xs [x_iload 3, x_aload 0, x_get 7 0, x_get 4 7]) := Snd.cons (snd_iload_n (i := 3) dX6_tight_13 rfl) (Snd.cons (snd_aload_n (i := 0) dX6_tight_14 rfl) (Snd.cons (snd_get (ci := 7) (k := 0) dX6_tight_15 rfl inX6 (by decide) tw_207) (Snd.cons (snd_getN (ci := 4) (k := 7) dX6_tight_18 rfl inX3 (by decide) tn_44) Snd.nil)))
theorem bX6_tight_85_86 {l : Launch} {E : XE} : Snd l E mX6_tight 85 86 (xs [x_iload 2]) := Snd.cons (snd_iload_n (i := 2) dX6_tight_85 rfl) Snd.nil
theorem bX6_tight_24_26 {l : Launch} {E : XE} : Snd l E mX6_tight 24 26 (xs [x_iload 1, x_iload 3]) := Snd.cons (snd_iload_n (i := 1) dX6_tight_24 rfl) (Snd.cons (snd_iload_n (i := 3) dX6_tight_25 rfl) Snd.nil)
theorem bX6_tight_29_30 {l : Launch} {E : XE} : Snd l E mX6_tight 29 30 (xs [x_push (.int (nI 1))]) := Snd.cons (snd_iconst (v := nI 1) dX6_tight_29 (by decide)) Snd.nil
theorem bX6_tight_82_13 {l : Launch} {E : XE} : Snd l E mX6_tight 82 13 (xs [x_id]) := Snd.cons (snd_goto (tgt := 13) dX6_tight_82 (by decide)) Snd.nil
theorem bX6_tight_33_41 {l : Launch} {E : XE} : Snd l E mX6_tight 33 41 (xs [x_aload 0, x_get 7 2, x_aload 0, x_get 7 0]) := Snd.cons (snd_aload_n (i := 0) dX6_tight_33 rfl) (Snd.cons (snd_get (ci := 7) (k := 2) dX6_tight_34 rfl inX6 (by decide) tw_209) (Snd.cons (snd_aload_n (i := 0) dX6_tight_37 rfl) (Snd.cons (snd_get (ci := 7) (k := 0) dX6_tight_38 rfl inX6 (by decide) tw_207) Snd.nil)))
theorem bX6_tight_44_54 {l : Launch} {E : XE} : Snd l E mX6_tight 44 54 (xs [x_aload 0, x_get 7 2, x_iload 3, x_aload 0, x_get 7 0, x_iload 3]) := Snd.cons (snd_aload_n (i := 0) dX6_tight_44 rfl) (Snd.cons (snd_get (ci := 7) (k := 2) dX6_tight_45 rfl inX6 (by decide) tw_209) (Snd.cons (snd_iload_n (i := 3) dX6_tight_48 rfl) (Snd.cons (snd_aload_n (i := 0) dX6_tight_49 rfl) (Snd.cons (snd_get (ci := 7) (k := 0) dX6_tight_50 rfl inX6 (by decide) tw_207) (Snd.cons (snd_iload_n (i := 3) dX6_tight_53 rfl) Snd.nil)))))
theorem bX6_tight_57_58 {l : Launch} {E : XE} : Snd l E mX6_tight 57 58 (xs [x_push (.int (nI 1))]) := Snd.cons (snd_iconst (v := nI 1) dX6_tight_57 (by decide)) Snd.nil
theorem bX6_tight_62_65 {l : Launch} {E : XE} : Snd l E mX6_tight 62 65 (xs [x_iload 2, x_push (.int (nI 1)), x_iload 3]) := Snd.cons (snd_iload_n (i := 2) dX6_tight_62 rfl) (Snd.cons (snd_iconst (v := nI 1) dX6_tight_63 (by decide)) (Snd.cons (snd_iload_n (i := 3) dX6_tight_64 rfl) Snd.nil))
theorem bX6_tight_66_71 {l : Launch} {E : XE} : Snd l E mX6_tight 66 71 (xs [x_aload 0, x_aload 0, x_get 7 2]) := Snd.cons (snd_aload_n (i := 0) dX6_tight_66 rfl) (Snd.cons (snd_aload_n (i := 0) dX6_tight_67 rfl) (Snd.cons (snd_get (ci := 7) (k := 2) dX6_tight_68 rfl inX6 (by decide) tw_209) Snd.nil))
theorem bX6_tight_74_76 {l : Launch} {E : XE} : Snd l E mX6_tight 74 76 (xs [x_push (.int (-1)), x_i2 (fun x y => x ^^^ y)]) := Snd.cons (snd_iconst (v := -1) dX6_tight_74 (by decide)) (Snd.cons (snd_ixor dX6_tight_75) Snd.nil)
theorem bX6_tight_78_79 {l : Launch} {E : XE} : Snd l E mX6_tight 78 79 (xs [x_istore 2]) := Snd.cons (snd_istore_n (i := 2) dX6_tight_78 rfl (by decide)) Snd.nil
set_option maxHeartbeats 4000000 in
set_option maxRecDepth 100000 in
theorem p_tight_ok {l : Launch} {E : XE} (T : TopN) (S P U : SaleN) (O : OutN) (B : BillN) (Q : SeaN) (C : ScrN) (R : PrtN) (tl rf : Nat → Nat)  (hS : SaleOK S) (hQ : Q.fd < 2147483648) (hp1 : ∀ k, k < S.ca → 1 ≤ S.pr k) : MetE l E mX6_tight (5) 0 0 [.ref 0] (compW T S P U O B Q C R tl rf) (CP T S P (C.lt) (C.sz) tl rf (some (.int (nI (tiTo S S.ca))))) := by
  refine MetE.of (by decide +kernel) (Nat.le_of_ble_eq_true rfl) ?_
  have hca := hS.1
  have hpw := pow_ca hS
  have hac := ac_lt hS
  
  refine ev_eq (lv' := [(0, .ref 0)]) (st' := []) (w' := compW T S P U O B Q C R tl rf) rfl rfl rfl ?_
  refine ev_b bX6_tight_0_5 (lv' := [(0, .ref 0)]) (st' := [.ref 1, .ref 0]) (w2 := compW T S P U O B Q C R tl rf) rfl ?_
  refine ev_callV (Yc := mX6_winnersOf) (rng 0 49) dX6_tight_5 tw_493 kX6_winnersOf (m_X6_winnersOf_S T S P U O B Q C R tl rf hS) rfl (st := []) rfl rfl rfl (by decide) comp_hw (by decide) (Nat.le_of_ble_eq_true rfl) (Nat.le_refl _) (Nat.le_refl _) (fun r w' h => by obtain ⟨-, O', rfl, -⟩ := h; exact Nat.le_refl 49) ?_
  rintro _ _ ⟨rfl, O0, rfl, hK0⟩
  refine ev_eq (lv' := [(0, .ref 0)]) (st' := [.int (nI (winB S 1023))]) (w' := compW T S P U O0 B Q C R tl rf) rfl rfl comp_xp ?_
  have hwb := winB_lt hS 1023
  refine ev_b bX6_tight_8_13 (lv' := [(3, .int (nI (0))), (2, .int (nI (0))), (1, .int (nI (winB S 1023))), (0, .ref 0)]) (st' := []) (w2 := compW T S P U O0 B Q C R tl rf) rfl ?_
  have L13 : ∀ (j_ k : Nat), k + j_ = S.ca → ∀ (U1 : SaleN) (O1 : OutN), True → Ev l E mX6_tight (5) 0 0 (compW T S P U O B Q C R tl rf) (CP T S P (C.lt) (C.sz) tl rf (some (.int (nI (tiTo S S.ca))))) 0 0 13 [(3, .int (nI (k))), (2, .int (nI (tiTo S k))), (0, .ref 0), (1, .int (nI (winB S 1023)))] [] (compW T S P U1 O1 B Q C R tl rf) := by
    intro j_
    induction j_ with
    | zero =>
      intro k hk13 U1 O1 hinv13
      replace hk13 : k = S.ca := hk13
      subst hk13
      refine ev_b bX6_tight_13_21 (lv' := [(3, .int (nI (S.ca))), (2, .int (nI (tiTo S S.ca))), (0, .ref 0), (1, .int (nI (winB S 1023)))]) (st' := [.int (nI (S.ca)), .int (nI (S.ca))]) (w2 := compW T S P U1 O1 B Q C R tl rf) rfl ?_
      refine ev_icmp_ge_n (tgt := 85) (by omega) (by omega) dX6_tight_21 (by decide) (fun h21 => ?_) (fun h21 => (by exfalso; omega))
      refine ev_b bX6_tight_85_86 (lv' := [(3, .int (nI (S.ca))), (2, .int (nI (tiTo S S.ca))), (0, .ref 0), (1, .int (nI (winB S 1023)))]) (st' := [.int (nI (tiTo S S.ca))]) (w2 := compW T S P U1 O1 B Q C R tl rf) rfl ?_
      exact ev_iret dX6_tight_86 rfl (Nat.le_refl 49) (Nat.le_refl _) (Nat.le_refl _) ⟨rfl, _, _, _, _, _, _, rfl, hQ, rfl, rfl⟩
    | succ j_ ih13 =>
      intro k hk13 U1 O1 hinv13
      have hlt13 : k < S.ca := by omega
      have hpk := (hS.2.2.1 k hlt13).2.2.2
      have hp1k := hp1 k hlt13
      have hU : SaleOK (priceS S k (S.pr k - 1)) := price_ok hS (by omega)
      refine ev_b bX6_tight_13_21 (lv' := [(3, .int (nI (k))), (2, .int (nI (tiTo S k))), (0, .ref 0), (1, .int (nI (winB S 1023)))]) (st' := [.int (nI (S.ca)), .int (nI (k))]) (w2 := compW T S P U1 O1 B Q C R tl rf) rfl ?_
      refine ev_icmp_ge_n (tgt := 85) (by omega) (by omega) dX6_tight_21 (by decide) (fun h21 => (by exfalso; omega)) (fun h21 => ?_)
      refine ev_b bX6_tight_24_26 (lv' := [(3, .int (nI (k))), (2, .int (nI (tiTo S k))), (0, .ref 0), (1, .int (nI (winB S 1023)))]) (st' := [.int (nI (k)), .int (nI (winB S 1023))]) (w2 := compW T S P U1 O1 B Q C R tl rf) rfl ?_
      refine ev_callS (Yc := mX6_bitAt) [] dX6_tight_26 tw_446 kX6_bitAt (m_X6_bitAt (winB S 1023) k (by omega) (by omega)) rfl (st := []) rfl (by decide) rfl (by decide) (Nat.le_of_ble_eq_true rfl) (Nat.le_refl _) (Nat.le_refl _) (fun r w' h => by obtain ⟨-, rfl⟩ := h; exact Nat.le_of_ble_eq_true rfl) ?_
      rintro _ _ ⟨rfl, rfl⟩
      refine ev_eq (lv' := [(3, .int (nI (k))), (2, .int (nI (tiTo S k))), (0, .ref 0), (1, .int (nI (winB S 1023)))]) (st' := [.int (nI (b01 ((winB S 1023).testBit k = true)))]) (w' := compW T S P U1 O1 B Q C R tl rf) rfl rfl rfl ?_
      refine ev_b bX6_tight_29_30 (lv' := [(3, .int (nI (k))), (2, .int (nI (tiTo S k))), (0, .ref 0), (1, .int (nI (winB S 1023)))]) (st' := [.int (nI (1)), .int (nI (b01 ((winB S 1023).testBit k = true)))]) (w2 := compW T S P U1 O1 B Q C R tl rf) rfl ?_
      refine ev_icmpne_b1 (tgt := 79) dX6_tight_30 (by decide) (fun h30 => ?_) (fun h30 => ?_)
      · skip
        refine ev_iinc_n (x := k) (v := 1) dX6_tight_79 rfl (by decide) ?_
        refine ev_eq (lv' := [(3, .int (nI (k + 1))), (2, .int (nI (tiTo S k))), (0, .ref 0), (1, .int (nI (winB S 1023)))]) rfl rfl rfl ?_
        refine ev_b bX6_tight_82_13 (lv' := [(3, .int (nI (k + 1))), (2, .int (nI (tiTo S k))), (0, .ref 0), (1, .int (nI (winB S 1023)))]) (st' := []) (w2 := compW T S P U1 O1 B Q C R tl rf) rfl ?_
        rw [show nI (k + 1) = nI ((k + 1)) from congrArg nI (by omega)]
        rw [show nI (tiTo S k) = nI (tiTo S (k + 1)) from congrArg nI (by rw [tiTo_s]; first | rw [if_pos h30] | rw [if_neg h30])]
        exact ih13 (k + 1) (by omega) U1 O1 trivial
      · skip
        refine ev_b bX6_tight_33_41 (lv' := [(3, .int (nI (k))), (2, .int (nI (tiTo S k))), (0, .ref 0), (1, .int (nI (winB S 1023)))]) (st' := [.ref 1, .ref 17]) (w2 := compW T S P U1 O1 B Q C R tl rf) rfl ?_
        refine ev_callVN (Yc := mX3_takeFrom) [17, 18, 19, 20, 21, 22, 23, 24, 1, 2, 3, 4, 5, 6, 7, 8] dX6_tight_41 tn_372 kX3_takeFrom (m_X3_takeFrom U1 S) rfl (st := []) rfl rfl rfl (by decide) hw_comp__17_1 (by decide) (Nat.le_of_ble_eq_true rfl) (Nat.le_refl _) (Nat.le_refl _) (fun r w' h => by obtain ⟨-, rfl⟩ := h; exact Nat.le_of_ble_eq_true rfl) ?_
        rintro _ _ ⟨rfl, rfl⟩
        refine ev_eq (lv' := [(3, .int (nI (k))), (2, .int (nI (tiTo S k))), (0, .ref 0), (1, .int (nI (winB S 1023)))]) (st' := []) (w' := compW T S P S O1 B Q C R tl rf) rfl rfl xp_comp__17_1 ?_
        refine ev_b bX6_tight_44_54 (lv' := [(3, .int (nI (k))), (2, .int (nI (tiTo S k))), (0, .ref 0), (1, .int (nI (winB S 1023)))]) (st' := [.int (nI (k)), .ref 1, .int (nI (k)), .ref 17]) (w2 := compW T S P S O1 B Q C R tl rf) rfl ?_
        refine ev_callVN (Yc := mX3_priceOf) [1, 2, 3, 4, 5, 6, 7, 8] dX6_tight_54 tn_453 kX3_priceOf (m_X3_priceOf S k hS hlt13) rfl (st := [.int (nI (k)), .ref 17]) rfl rfl rfl (by decide) hw_comp__1 (by decide) (Nat.le_of_ble_eq_true rfl) (Nat.le_refl _) (Nat.le_refl _) (fun r w' h => by obtain ⟨-, rfl⟩ := h; exact Nat.le_of_ble_eq_true rfl) ?_
        rintro _ _ ⟨rfl, rfl⟩
        refine ev_eq (lv' := [(3, .int (nI (k))), (2, .int (nI (tiTo S k))), (0, .ref 0), (1, .int (nI (winB S 1023)))]) (st' := [.int (nI (S.pr k)), .int (nI (k)), .ref 17]) (w' := compW T S P S O1 B Q C R tl rf) rfl rfl xp_comp__1 ?_
        refine ev_b bX6_tight_57_58 (lv' := [(3, .int (nI (k))), (2, .int (nI (tiTo S k))), (0, .ref 0), (1, .int (nI (winB S 1023)))]) (st' := [.int (nI (1)), .int (nI (S.pr k)), .int (nI (k)), .ref 17]) (w2 := compW T S P S O1 B Q C R tl rf) rfl ?_
        refine ev_isub_n (by omega) dX6_tight_58 ?_
        refine ev_callVN (Yc := mX3_setPrice) [17, 18, 19, 20, 21, 22, 23, 24] dX6_tight_59 tn_457 kX3_setPrice (m_X3_setPrice S k (S.pr k - 1) hS hlt13) rfl (st := []) rfl rfl rfl (by decide) hw_comp__17 (by decide) (Nat.le_of_ble_eq_true rfl) (Nat.le_refl _) (Nat.le_refl _) (fun r w' h => by obtain ⟨-, rfl⟩ := h; exact Nat.le_of_ble_eq_true rfl) ?_
        rintro _ _ ⟨rfl, rfl⟩
        refine ev_eq (lv' := [(3, .int (nI (k))), (2, .int (nI (tiTo S k))), (0, .ref 0), (1, .int (nI (winB S 1023)))]) (st' := []) (w' := compW T S P ((priceS S k (S.pr k - 1))) O1 B Q C R tl rf) rfl rfl xp_comp__17 ?_
        refine ev_b bX6_tight_62_65 (lv' := [(3, .int (nI (k))), (2, .int (nI (tiTo S k))), (0, .ref 0), (1, .int (nI (winB S 1023)))]) (st' := [.int (nI (k)), .int (nI (1)), .int (nI (tiTo S k))]) (w2 := compW T S P ((priceS S k (S.pr k - 1))) O1 B Q C R tl rf) rfl ?_
        refine ev_ishl_n (by omega) dX6_tight_65 ?_
        refine ev_b bX6_tight_66_71 (lv' := [(3, .int (nI (k))), (2, .int (nI (tiTo S k))), (0, .ref 0), (1, .int (nI (winB S 1023)))]) (st' := [.ref 17, .ref 0, .int (nI (1 <<< k)), .int (nI (tiTo S k))]) (w2 := compW T S P ((priceS S k (S.pr k - 1))) O1 B Q C R tl rf) rfl ?_
        refine ev_callV (Yc := mX6_winnersOf) (rng 0 49) dX6_tight_71 tw_493 kX6_winnersOf (m_X6_winnersOf_U T S P ((priceS S k (S.pr k - 1))) O1 B Q C R tl rf hU) rfl (st := [.int (nI (1 <<< k)), .int (nI (tiTo S k))]) rfl rfl rfl (by decide) comp_hw (by decide) (Nat.le_of_ble_eq_true rfl) (Nat.le_refl _) (Nat.le_refl _) (fun r w' h => by obtain ⟨-, O', rfl, -⟩ := h; exact Nat.le_refl 49) ?_
        rintro _ _ ⟨rfl, O2, rfl, hK2⟩
        refine ev_eq (lv' := [(3, .int (nI (k))), (2, .int (nI (tiTo S k))), (0, .ref 0), (1, .int (nI (winB S 1023)))]) (st' := [.int (nI (winB (priceS S k (S.pr k - 1)) 1023)), .int (nI (1 <<< k)), .int (nI (tiTo S k))]) (w' := compW T S P ((priceS S k (S.pr k - 1))) O2 B Q C R tl rf) rfl rfl comp_xp ?_
        have hwb := winB_lt hU 1023
        refine ev_b bX6_tight_74_76 (lv' := [(3, .int (nI (k))), (2, .int (nI (tiTo S k))), (0, .ref 0), (1, .int (nI (winB S 1023)))]) (st' := [.int (nI (winB (priceS S k (S.pr k - 1)) 1023) ^^^ (-1)), .int (nI (1 <<< k)), .int (nI (tiTo S k))]) (w2 := compW T S P ((priceS S k (S.pr k - 1))) O2 B Q C R tl rf) rfl ?_
        refine ev_iandn_n dX6_tight_76 ?_
        refine ev_ior_n dX6_tight_77 ?_
        refine ev_b bX6_tight_78_79 (lv' := [(2, .int (nI ((tiTo S k) ||| (andn (1 <<< k) (winB (priceS S k (S.pr k - 1)) 1023))))), (3, .int (nI (k))), (0, .ref 0), (1, .int (nI (winB S 1023)))]) (st' := []) (w2 := compW T S P ((priceS S k (S.pr k - 1))) O2 B Q C R tl rf) rfl ?_
        refine ev_iinc_n (x := k) (v := 1) dX6_tight_79 rfl (by decide) ?_
        refine ev_eq (lv' := [(3, .int (nI (k + 1))), (2, .int (nI ((tiTo S k) ||| (andn (1 <<< k) (winB (priceS S k (S.pr k - 1)) 1023))))), (0, .ref 0), (1, .int (nI (winB S 1023)))]) rfl rfl rfl ?_
        refine ev_b bX6_tight_82_13 (lv' := [(3, .int (nI (k + 1))), (2, .int (nI ((tiTo S k) ||| (andn (1 <<< k) (winB (priceS S k (S.pr k - 1)) 1023))))), (0, .ref 0), (1, .int (nI (winB S 1023)))]) (st' := []) (w2 := compW T S P ((priceS S k (S.pr k - 1))) O2 B Q C R tl rf) rfl ?_
        rw [show nI (k + 1) = nI ((k + 1)) from congrArg nI (by omega)]
        rw [show nI ((tiTo S k) ||| (andn (1 <<< k) (winB (priceS S k (S.pr k - 1)) 1023))) = nI (tiTo S (k + 1)) from congrArg nI (by rw [tiTo_s]; first | rw [if_pos h30] | rw [if_neg h30])]
        exact ih13 (k + 1) (by omega) ((priceS S k (S.pr k - 1))) O2 trivial
  refine ev_pick (lv' := [(3, .int (nI (0))), (2, .int (nI (0))), (0, .ref 0), (1, .int (nI (winB S 1023)))]) rfl ?_
  exact L13 S.ca 0 (by omega) U O0 trivial
theorem bX6_shillSurplus_0_8 {l : Launch} {E : XE} : Snd l E mX6_shillSurplus 0 8 (xs [x_aload 0, x_get 7 2, x_aload 0, x_get 7 0]) := Snd.cons (snd_aload_n (i := 0) dX6_shillSurplus_0 rfl) (Snd.cons (snd_get (ci := 7) (k := 2) dX6_shillSurplus_1 rfl inX6 (by decide) tw_209) (Snd.cons (snd_aload_n (i := 0) dX6_shillSurplus_4 rfl) (Snd.cons (snd_get (ci := 7) (k := 0) dX6_shillSurplus_5 rfl inX6 (by decide) tw_207) Snd.nil)))
theorem bX6_shillSurplus_11_18 {l : Launch} {E : XE} : Snd l E mX6_shillSurplus 11 18 (xs [x_aload 0, x_get 7 2, x_iload 1, x_push (.int (nI 0)), x_push (.int (nI 0))]) := Snd.cons (snd_aload_n (i := 0) dX6_shillSurplus_11 rfl) (Snd.cons (snd_get (ci := 7) (k := 2) dX6_shillSurplus_12 rfl inX6 (by decide) tw_209) (Snd.cons (snd_iload_n (i := 1) dX6_shillSurplus_15 rfl) (Snd.cons (snd_iconst (v := nI 0) dX6_shillSurplus_16 (by decide)) (Snd.cons (snd_iconst (v := nI 0) dX6_shillSurplus_17 (by decide)) Snd.nil))))
theorem bX6_shillSurplus_21_29 {l : Launch} {E : XE} : Snd l E mX6_shillSurplus 21 29 (xs [x_aload 0, x_get 7 3, x_aload 0, x_get 7 2]) := Snd.cons (snd_aload_n (i := 0) dX6_shillSurplus_21 rfl) (Snd.cons (snd_get (ci := 7) (k := 3) dX6_shillSurplus_22 rfl inX6 (by decide) tw_210) (Snd.cons (snd_aload_n (i := 0) dX6_shillSurplus_25 rfl) (Snd.cons (snd_get (ci := 7) (k := 2) dX6_shillSurplus_26 rfl inX6 (by decide) tw_209) Snd.nil)))
theorem bX6_shillSurplus_32_39 {l : Launch} {E : XE} : Snd l E mX6_shillSurplus 32 39 (xs [x_aload 0, x_get 7 3, x_push (.int (nI 1023))]) := Snd.cons (snd_aload_n (i := 0) dX6_shillSurplus_32 rfl) (Snd.cons (snd_get (ci := 7) (k := 3) dX6_shillSurplus_33 rfl inX6 (by decide) tw_210) (Snd.cons (snd_sipush (v := nI 1023) dX6_shillSurplus_36 (by decide)) Snd.nil))
theorem bX6_shillSurplus_42_44 {l : Launch} {E : XE} : Snd l E mX6_shillSurplus 42 44 (xs [x_istore 2, x_iload 2]) := Snd.cons (snd_istore_n (i := 2) dX6_shillSurplus_42 rfl (by decide)) (Snd.cons (snd_iload_n (i := 2) dX6_shillSurplus_43 rfl) Snd.nil)
theorem bX6_shillSurplus_47_49 {l : Launch} {E : XE} : Snd l E mX6_shillSurplus 47 49 (xs [x_istore 3, x_iload 2]) := Snd.cons (snd_istore_n (i := 3) dX6_shillSurplus_47 rfl (by decide)) (Snd.cons (snd_iload_n (i := 2) dX6_shillSurplus_48 rfl) Snd.nil)
theorem bX6_shillSurplus_52_58 {l : Launch} {E : XE} : Snd l E mX6_shillSurplus 52 58 (xs [x_aload 0, x_get 7 2, x_push (.int (nI 1)), x_iload 1]) := Snd.cons (snd_aload_n (i := 0) dX6_shillSurplus_52 rfl) (Snd.cons (snd_get (ci := 7) (k := 2) dX6_shillSurplus_53 rfl inX6 (by decide) tw_209) (Snd.cons (snd_iconst (v := nI 1) dX6_shillSurplus_56 (by decide)) (Snd.cons (snd_iload_n (i := 1) dX6_shillSurplus_57 rfl) Snd.nil)))
theorem bX6_shillSurplus_63_71 {l : Launch} {E : XE} : Snd l E mX6_shillSurplus 63 71 (xs [x_istore 4, x_push (.int (nI 0)), x_istore 5, x_push (.int (nI 0)), x_istore 6]) := Snd.cons (snd_istore dX6_shillSurplus_63 (by decide)) (Snd.cons (snd_iconst (v := nI 0) dX6_shillSurplus_65 (by decide)) (Snd.cons (snd_istore dX6_shillSurplus_66 (by decide)) (Snd.cons (snd_iconst (v := nI 0) dX6_shillSurplus_68 (by decide)) (Snd.cons (snd_istore dX6_shillSurplus_69 (by decide)) Snd.nil))))
theorem bX6_shillSurplus_71_80 {l : Launch} {E : XE} : Snd l E mX6_shillSurplus 71 80 (xs [x_iload 6, x_aload 0, x_get 7 2, x_get 4 7]) := Snd.cons (snd_iload dX6_shillSurplus_71) (Snd.cons (snd_aload_n (i := 0) dX6_shillSurplus_73 rfl) (Snd.cons (snd_get (ci := 7) (k := 2) dX6_shillSurplus_74 rfl inX6 (by decide) tw_209) (Snd.cons (snd_getN (ci := 4) (k := 7) dX6_shillSurplus_77 rfl inX3 (by decide) tn_44) Snd.nil)))
theorem bX6_shillSurplus_148_150 {l : Launch} {E : XE} : Snd l E mX6_shillSurplus 148 150 (xs [x_iload 5]) := Snd.cons (snd_iload dX6_shillSurplus_148) Snd.nil
theorem bX6_shillSurplus_83_87 {l : Launch} {E : XE} : Snd l E mX6_shillSurplus 83 87 (xs [x_iload 4, x_iload 6]) := Snd.cons (snd_iload dX6_shillSurplus_83) (Snd.cons (snd_iload dX6_shillSurplus_85) Snd.nil)
theorem bX6_shillSurplus_90_91 {l : Launch} {E : XE} : Snd l E mX6_shillSurplus 90 91 (xs [x_push (.int (nI 1))]) := Snd.cons (snd_iconst (v := nI 1) dX6_shillSurplus_90 (by decide)) Snd.nil
theorem bX6_shillSurplus_145_71 {l : Launch} {E : XE} : Snd l E mX6_shillSurplus 145 71 (xs [x_id]) := Snd.cons (snd_goto (tgt := 71) dX6_shillSurplus_145 (by decide)) Snd.nil
theorem bX6_shillSurplus_94_100 {l : Launch} {E : XE} : Snd l E mX6_shillSurplus 94 100 (xs [x_aload 0, x_get 7 2, x_iload 6]) := Snd.cons (snd_aload_n (i := 0) dX6_shillSurplus_94 rfl) (Snd.cons (snd_get (ci := 7) (k := 2) dX6_shillSurplus_95 rfl inX6 (by decide) tw_209) (Snd.cons (snd_iload dX6_shillSurplus_98) Snd.nil))
theorem bX6_shillSurplus_103_115 {l : Launch} {E : XE} : Snd l E mX6_shillSurplus 103 115 (xs [x_istore 7, x_aload 0, x_get 7 3, x_push (.int (nI 1023)), x_push (.int (nI 1)), x_iload 6]) := Snd.cons (snd_istore dX6_shillSurplus_103 (by decide)) (Snd.cons (snd_aload_n (i := 0) dX6_shillSurplus_105 rfl) (Snd.cons (snd_get (ci := 7) (k := 3) dX6_shillSurplus_106 rfl inX6 (by decide) tw_210) (Snd.cons (snd_sipush (v := nI 1023) dX6_shillSurplus_109 (by decide)) (Snd.cons (snd_iconst (v := nI 1) dX6_shillSurplus_112 (by decide)) (Snd.cons (snd_iload dX6_shillSurplus_113) Snd.nil)))))
theorem bX6_shillSurplus_116_118 {l : Launch} {E : XE} : Snd l E mX6_shillSurplus 116 118 (xs [x_push (.int (-1)), x_i2 (fun x y => x ^^^ y)]) := Snd.cons (snd_iconst (v := -1) dX6_shillSurplus_116 (by decide)) (Snd.cons (snd_ixor dX6_shillSurplus_117) Snd.nil)
theorem bX6_shillSurplus_125_128 {l : Launch} {E : XE} : Snd l E mX6_shillSurplus 125 128 (xs [x_iload 3, x_iload 7]) := Snd.cons (snd_iload_n (i := 3) dX6_shillSurplus_125 rfl) (Snd.cons (snd_iload dX6_shillSurplus_126) Snd.nil)
theorem bX6_shillSurplus_130_138 {l : Launch} {E : XE} : Snd l E mX6_shillSurplus 130 138 (xs [x_istore 8, x_iload 5, x_iload 7, x_iload 8]) := Snd.cons (snd_istore dX6_shillSurplus_130 (by decide)) (Snd.cons (snd_iload dX6_shillSurplus_132) (Snd.cons (snd_iload dX6_shillSurplus_134) (Snd.cons (snd_iload dX6_shillSurplus_136) Snd.nil)))
theorem bX6_shillSurplus_140_142 {l : Launch} {E : XE} : Snd l E mX6_shillSurplus 140 142 (xs [x_istore 5]) := Snd.cons (snd_istore dX6_shillSurplus_140 (by decide)) Snd.nil
set_option maxHeartbeats 4000000 in
set_option maxRecDepth 100000 in
theorem m_X6_shillSurplus {l : Launch} {E : XE} (T : TopN) (S P U : SaleN) (O : OutN) (B : BillN) (Q : SeaN) (C : ScrN) (R : PrtN) (tl rf : Nat → Nat) (b : Nat) (hS : SaleOK S) (hb : b < 5) : MetE l E mX6_shillSurplus (4) 0 0 [.ref 0, .int (nI (b))] (compW T S P U O B Q C R tl rf) (fun r w' => r = some (.int (zI (shZ (kindS S b 0 0) (winB (kindS S b 0 0) 1023 &&& bgTo S.ow (1 <<< b) 5) S.ca))) ∧ ∃ O' : OutN, w' = compW T S P ((kindS S b 0 0)) (O') B Q C R tl rf) := by
  refine MetE.of (by decide +kernel) (Nat.le_of_ble_eq_true rfl) ?_
  have hca := hS.1
  have hU : SaleOK (kindS S b 0 0) := kind_ok hS (by decide) (by decide)
  obtain ⟨-, -, -, -, -, -, -, -, hk1, hk2, -⟩ := wK_spec hU 1023
  have hwb := winB_lt hU 1023
  have h1b : 1 <<< b < 2147483648 := Nat.lt_of_lt_of_le (shl_lt (show b < 5 from hb)) (by decide)
  have hW : (winB (kindS S b 0 0) 1023 &&& bgTo S.ow (1 <<< b) 5) < 2147483648 := Nat.lt_of_le_of_lt Nat.and_le_left (by omega)
  have hcaA : SaleN.ca (kindS S b 0 0) = S.ca := rfl
  refine ev_eq (lv' := [(0, .ref 0), (1, .int (nI (b)))]) (st' := []) (w' := compW T S P U O B Q C R tl rf) rfl rfl rfl ?_
  refine ev_b bX6_shillSurplus_0_8 (lv' := [(0, .ref 0), (1, .int (nI (b)))]) (st' := [.ref 1, .ref 17]) (w2 := compW T S P U O B Q C R tl rf) rfl ?_
  refine ev_callVN (Yc := mX3_takeFrom) [17, 18, 19, 20, 21, 22, 23, 24, 1, 2, 3, 4, 5, 6, 7, 8] dX6_shillSurplus_8 tn_372 kX3_takeFrom (m_X3_takeFrom U S) rfl (st := []) rfl rfl rfl (by decide) hw_comp__17_1 (by decide) (Nat.le_of_ble_eq_true rfl) (Nat.le_refl _) (Nat.le_refl _) (fun r w' h => by obtain ⟨-, rfl⟩ := h; exact Nat.le_of_ble_eq_true rfl) ?_
  rintro _ _ ⟨rfl, rfl⟩
  refine ev_eq (lv' := [(0, .ref 0), (1, .int (nI (b)))]) (st' := []) (w' := compW T S P S O B Q C R tl rf) rfl rfl xp_comp__17_1 ?_
  refine ev_b bX6_shillSurplus_11_18 (lv' := [(0, .ref 0), (1, .int (nI (b)))]) (st' := [.int (nI (0)), .int (nI (0)), .int (nI (b)), .ref 17]) (w2 := compW T S P S O B Q C R tl rf) rfl ?_
  refine ev_callVN (Yc := mX3_setKind) [17, 18, 19, 20, 21, 22, 23, 24] dX6_shillSurplus_18 tn_470 kX3_setKind (m_X3_setKind S b 0 0 hb) rfl (st := []) rfl rfl rfl (by decide) hw_comp__17 (by decide) (Nat.le_of_ble_eq_true rfl) (Nat.le_refl _) (Nat.le_refl _) (fun r w' h => by obtain ⟨-, rfl⟩ := h; exact Nat.le_of_ble_eq_true rfl) ?_
  rintro _ _ ⟨rfl, rfl⟩
  refine ev_eq (lv' := [(0, .ref 0), (1, .int (nI (b)))]) (st' := []) (w' := compW T S P ((kindS S b 0 0)) O B Q C R tl rf) rfl rfl xp_comp__17 ?_
  refine ev_b bX6_shillSurplus_21_29 (lv' := [(0, .ref 0), (1, .int (nI (b)))]) (st' := [.ref 17, .ref 25]) (w2 := compW T S P ((kindS S b 0 0)) O B Q C R tl rf) rfl ?_
  refine ev_callVN (Yc := mX1_gather) [25, 26, 27, 28, 29, 17, 18, 19, 20, 21, 22, 23, 24] dX6_shillSurplus_29 tn_497 kX1_gather (m_X1_gather O (kindS S b 0 0) hU) rfl (st := []) rfl rfl rfl (by decide) hw_comp__25_17 (by decide) (Nat.le_of_ble_eq_true rfl) (Nat.le_refl _) (Nat.le_refl _) (fun r w' h => by obtain ⟨-, O', rfl, -⟩ := h; exact Nat.le_of_ble_eq_true rfl) ?_
  rintro _ _ ⟨rfl, O1, rfl, hK1⟩
  refine ev_eq (lv' := [(0, .ref 0), (1, .int (nI (b)))]) (st' := []) (w' := compW T S P ((kindS S b 0 0)) O1 B Q C R tl rf) rfl rfl xp_comp__25_17 ?_
  refine ev_b bX6_shillSurplus_32_39 (lv' := [(0, .ref 0), (1, .int (nI (b)))]) (st' := [.int (nI (1023)), .ref 25]) (w2 := compW T S P ((kindS S b 0 0)) O1 B Q C R tl rf) rfl ?_
  refine ev_callVN (Yc := mX1_first) [25, 26, 27, 28, 29] dX6_shillSurplus_39 tn_543 kX1_first (m_X1_first O1 1023 (keys_ok hU hK1)) rfl (st := []) rfl rfl rfl (by decide) hw_comp__25 (by decide) (Nat.le_of_ble_eq_true rfl) (Nat.le_refl _) (Nat.le_refl _) (fun r w' h => by obtain ⟨-, rfl⟩ := h; exact Nat.le_of_ble_eq_true rfl) ?_
  rintro _ _ ⟨rfl, rfl⟩
  refine ev_eq (lv' := [(0, .ref 0), (1, .int (nI (b)))]) (st' := [.int (nI (firstTo O1.ke 1023 O1.sz))]) (w' := compW T S P ((kindS S b 0 0)) O1 B Q C R tl rf) rfl rfl xp_comp__25 ?_
  refine ev_top (y := (nI (wK (kindS S b 0 0) 1023))) (congrArg nI (show firstTo O1.ke 1023 O1.sz = wK (kindS S b 0 0) 1023 from by exact first_L hK1 _)) ?_
  refine ev_b bX6_shillSurplus_42_44 (lv' := [(2, .int (nI (wK (kindS S b 0 0) 1023))), (0, .ref 0), (1, .int (nI (b)))]) (st' := [.int (nI (wK (kindS S b 0 0) 1023))]) (w2 := compW T S P ((kindS S b 0 0)) O1 B Q C R tl rf) rfl ?_
  refine ev_callSN (Yc := mX1_worthIn) [] dX6_shillSurplus_44 tn_633 kX1_worthIn (m_X1_worthIn (wK (kindS S b 0 0) 1023) hk1 hk2) rfl (st := []) rfl (by decide) rfl (by decide) (Nat.le_of_ble_eq_true rfl) (Nat.le_refl _) (Nat.le_refl _) (fun r w' h => by obtain ⟨-, rfl⟩ := h; exact Nat.le_of_ble_eq_true rfl) ?_
  rintro _ _ ⟨rfl, rfl⟩
  refine ev_eq (lv' := [(2, .int (nI (wK (kindS S b 0 0) 1023))), (0, .ref 0), (1, .int (nI (b)))]) (st' := [.int (nI (worthK (wK (kindS S b 0 0) 1023)))]) (w' := compW T S P ((kindS S b 0 0)) O1 B Q C R tl rf) rfl rfl rfl ?_
  refine ev_top (y := (zI (((winW (kindS S b 0 0) 1023 : Nat) : Int)))) ((zI_nat _).symm.trans (congrArg zI (show ((worthK (wK (kindS S b 0 0) 1023) : Nat) : Int) = ((winW (kindS S b 0 0) 1023 : Nat) : Int) from by rfl))) ?_
  refine ev_b bX6_shillSurplus_47_49 (lv' := [(3, .int (zI (((winW (kindS S b 0 0) 1023 : Nat) : Int)))), (2, .int (nI (wK (kindS S b 0 0) 1023))), (0, .ref 0), (1, .int (nI (b)))]) (st' := [.int (nI (wK (kindS S b 0 0) 1023))]) (w2 := compW T S P ((kindS S b 0 0)) O1 B Q C R tl rf) rfl ?_
  refine ev_callSN (Yc := mX1_bidsIn) [] dX6_shillSurplus_49 tn_555 kX1_bidsIn (m_X1_bidsIn (wK (kindS S b 0 0) 1023)) rfl (st := []) rfl (by decide) rfl (by decide) (Nat.le_of_ble_eq_true rfl) (Nat.le_refl _) (Nat.le_refl _) (fun r w' h => by obtain ⟨-, rfl⟩ := h; exact Nat.le_of_ble_eq_true rfl) ?_
  rintro _ _ ⟨rfl, rfl⟩
  refine ev_eq (lv' := [(3, .int (zI (((winW (kindS S b 0 0) 1023 : Nat) : Int)))), (2, .int (nI (wK (kindS S b 0 0) 1023))), (0, .ref 0), (1, .int (nI (b)))]) (st' := [.int (nI (bidsN (wK (kindS S b 0 0) 1023)))]) (w' := compW T S P ((kindS S b 0 0)) O1 B Q C R tl rf) rfl rfl rfl ?_
  refine ev_top (y := (nI (winB (kindS S b 0 0) 1023))) (congrArg nI (show bidsN (wK (kindS S b 0 0) 1023) = winB (kindS S b 0 0) 1023 from by rfl)) ?_
  refine ev_b bX6_shillSurplus_52_58 (lv' := [(3, .int (zI (((winW (kindS S b 0 0) 1023 : Nat) : Int)))), (2, .int (nI (wK (kindS S b 0 0) 1023))), (0, .ref 0), (1, .int (nI (b)))]) (st' := [.int (nI (b)), .int (nI (1)), .ref 17, .int (nI (winB (kindS S b 0 0) 1023))]) (w2 := compW T S P ((kindS S b 0 0)) O1 B Q C R tl rf) rfl ?_
  refine ev_ishl_n (by omega) dX6_shillSurplus_58 ?_
  refine ev_callVN (Yc := mX3_bidsOfGroup) [17, 18, 19, 20, 21, 22, 23, 24] dX6_shillSurplus_59 tn_584 kX3_bidsOfGroup (m_X3_bidsOfGroup (kindS S b 0 0) (1 <<< b) h1b) rfl (st := [.int (nI (winB (kindS S b 0 0) 1023))]) rfl rfl rfl (by decide) hw_comp__17 (by decide) (Nat.le_of_ble_eq_true rfl) (Nat.le_refl _) (Nat.le_refl _) (fun r w' h => by obtain ⟨-, rfl⟩ := h; exact Nat.le_of_ble_eq_true rfl) ?_
  rintro _ _ ⟨rfl, rfl⟩
  refine ev_eq (lv' := [(3, .int (zI (((winW (kindS S b 0 0) 1023 : Nat) : Int)))), (2, .int (nI (wK (kindS S b 0 0) 1023))), (0, .ref 0), (1, .int (nI (b)))]) (st' := [.int (nI (bgTo (SaleN.ow (kindS S b 0 0)) (1 <<< b) 5)), .int (nI (winB (kindS S b 0 0) 1023))]) (w' := compW T S P ((kindS S b 0 0)) O1 B Q C R tl rf) rfl rfl xp_comp__17 ?_
  refine ev_top (y := (nI (bgTo S.ow (1 <<< b) 5))) (congrArg nI (show bgTo (SaleN.ow (kindS S b 0 0)) (1 <<< b) 5 = bgTo S.ow (1 <<< b) 5 from by rfl)) ?_
  refine ev_iand_n dX6_shillSurplus_62 ?_
  refine ev_b bX6_shillSurplus_63_71 (lv' := [(6, .int (nI (0))), (5, .int (nI (0))), (4, .int (nI ((winB (kindS S b 0 0) 1023) &&& (bgTo S.ow (1 <<< b) 5)))), (3, .int (zI (((winW (kindS S b 0 0) 1023 : Nat) : Int)))), (2, .int (nI (wK (kindS S b 0 0) 1023))), (0, .ref 0), (1, .int (nI (b)))]) (st' := []) (w2 := compW T S P ((kindS S b 0 0)) O1 B Q C R tl rf) rfl ?_
  have L71 : ∀ (j_ k : Nat), k + j_ = S.ca → Ev l E mX6_shillSurplus (4) 0 0 (compW T S P U O B Q C R tl rf) (fun r w' => r = some (.int (zI (shZ (kindS S b 0 0) (winB (kindS S b 0 0) 1023 &&& bgTo S.ow (1 <<< b) 5) S.ca))) ∧ ∃ O' : OutN, w' = compW T S P ((kindS S b 0 0)) (O') B Q C R tl rf) 0 0 71 [(6, .int (nI (k))), (5, .int (zI (shZ (kindS S b 0 0) (winB (kindS S b 0 0) 1023 &&& bgTo S.ow (1 <<< b) 5) k))), (0, .ref 0), (1, .int (nI (b))), (2, .int (nI (wK (kindS S b 0 0) 1023))), (3, .int (zI (((winW (kindS S b 0 0) 1023 : Nat) : Int)))), (4, .int (nI ((winB (kindS S b 0 0) 1023) &&& (bgTo S.ow (1 <<< b) 5))))] [] (compW T S P ((kindS S b 0 0)) O1 B Q C R tl rf) := by
    intro j_
    induction j_ with
    | zero =>
      intro k hk71  
      replace hk71 : k = S.ca := hk71
      subst hk71
      refine ev_b bX6_shillSurplus_71_80 (lv' := [(6, .int (nI (S.ca))), (5, .int (zI (shZ (kindS S b 0 0) (winB (kindS S b 0 0) 1023 &&& bgTo S.ow (1 <<< b) 5) S.ca))), (0, .ref 0), (1, .int (nI (b))), (2, .int (nI (wK (kindS S b 0 0) 1023))), (3, .int (zI (((winW (kindS S b 0 0) 1023 : Nat) : Int)))), (4, .int (nI ((winB (kindS S b 0 0) 1023) &&& (bgTo S.ow (1 <<< b) 5))))]) (st' := [.int (nI (SaleN.ca ((kindS S b 0 0)))), .int (nI (S.ca))]) (w2 := compW T S P ((kindS S b 0 0)) O1 B Q C R tl rf) rfl ?_
      refine ev_icmp_ge_n (tgt := 148) (by omega) (by omega) dX6_shillSurplus_80 (by decide) (fun h80 => ?_) (fun h80 => (by exfalso; omega))
      refine ev_b bX6_shillSurplus_148_150 (lv' := [(6, .int (nI (S.ca))), (5, .int (zI (shZ (kindS S b 0 0) (winB (kindS S b 0 0) 1023 &&& bgTo S.ow (1 <<< b) 5) S.ca))), (0, .ref 0), (1, .int (nI (b))), (2, .int (nI (wK (kindS S b 0 0) 1023))), (3, .int (zI (((winW (kindS S b 0 0) 1023 : Nat) : Int)))), (4, .int (nI ((winB (kindS S b 0 0) 1023) &&& (bgTo S.ow (1 <<< b) 5))))]) (st' := [.int (zI (shZ (kindS S b 0 0) (winB (kindS S b 0 0) 1023 &&& bgTo S.ow (1 <<< b) 5) S.ca))]) (w2 := compW T S P ((kindS S b 0 0)) O1 B Q C R tl rf) rfl ?_
      exact ev_iret dX6_shillSurplus_150 rfl (Nat.le_refl 49) (Nat.le_refl _) (Nat.le_refl _) ⟨rfl, _, rfl⟩
    | succ j_ ih71 =>
      intro k hk71  
      have hlt71 : k < S.ca := by omega
      obtain ⟨-, -, -, -, -, -, -, -, hk3, hk4, -⟩ := wK_spec hU (andn 1023 (1 <<< k))
      refine ev_b bX6_shillSurplus_71_80 (lv' := [(6, .int (nI (k))), (5, .int (zI (shZ (kindS S b 0 0) (winB (kindS S b 0 0) 1023 &&& bgTo S.ow (1 <<< b) 5) k))), (0, .ref 0), (1, .int (nI (b))), (2, .int (nI (wK (kindS S b 0 0) 1023))), (3, .int (zI (((winW (kindS S b 0 0) 1023 : Nat) : Int)))), (4, .int (nI ((winB (kindS S b 0 0) 1023) &&& (bgTo S.ow (1 <<< b) 5))))]) (st' := [.int (nI (SaleN.ca ((kindS S b 0 0)))), .int (nI (k))]) (w2 := compW T S P ((kindS S b 0 0)) O1 B Q C R tl rf) rfl ?_
      refine ev_icmp_ge_n (tgt := 148) (by omega) (by omega) dX6_shillSurplus_80 (by decide) (fun h80 => (by exfalso; omega)) (fun h80 => ?_)
      refine ev_b bX6_shillSurplus_83_87 (lv' := [(6, .int (nI (k))), (5, .int (zI (shZ (kindS S b 0 0) (winB (kindS S b 0 0) 1023 &&& bgTo S.ow (1 <<< b) 5) k))), (0, .ref 0), (1, .int (nI (b))), (2, .int (nI (wK (kindS S b 0 0) 1023))), (3, .int (zI (((winW (kindS S b 0 0) 1023 : Nat) : Int)))), (4, .int (nI ((winB (kindS S b 0 0) 1023) &&& (bgTo S.ow (1 <<< b) 5))))]) (st' := [.int (nI (k)), .int (nI ((winB (kindS S b 0 0) 1023) &&& (bgTo S.ow (1 <<< b) 5)))]) (w2 := compW T S P ((kindS S b 0 0)) O1 B Q C R tl rf) rfl ?_
      refine ev_callS (Yc := mX6_bitAt) [] dX6_shillSurplus_87 tw_446 kX6_bitAt (m_X6_bitAt (winB (kindS S b 0 0) 1023 &&& bgTo S.ow (1 <<< b) 5) k hW (by omega)) rfl (st := []) rfl (by decide) rfl (by decide) (Nat.le_of_ble_eq_true rfl) (Nat.le_refl _) (Nat.le_refl _) (fun r w' h => by obtain ⟨-, rfl⟩ := h; exact Nat.le_of_ble_eq_true rfl) ?_
      rintro _ _ ⟨rfl, rfl⟩
      refine ev_eq (lv' := [(6, .int (nI (k))), (5, .int (zI (shZ (kindS S b 0 0) (winB (kindS S b 0 0) 1023 &&& bgTo S.ow (1 <<< b) 5) k))), (0, .ref 0), (1, .int (nI (b))), (2, .int (nI (wK (kindS S b 0 0) 1023))), (3, .int (zI (((winW (kindS S b 0 0) 1023 : Nat) : Int)))), (4, .int (nI ((winB (kindS S b 0 0) 1023) &&& (bgTo S.ow (1 <<< b) 5))))]) (st' := [.int (nI (b01 ((winB (kindS S b 0 0) 1023 &&& bgTo S.ow (1 <<< b) 5).testBit k = true)))]) (w' := compW T S P ((kindS S b 0 0)) O1 B Q C R tl rf) rfl rfl rfl ?_
      refine ev_b bX6_shillSurplus_90_91 (lv' := [(6, .int (nI (k))), (5, .int (zI (shZ (kindS S b 0 0) (winB (kindS S b 0 0) 1023 &&& bgTo S.ow (1 <<< b) 5) k))), (0, .ref 0), (1, .int (nI (b))), (2, .int (nI (wK (kindS S b 0 0) 1023))), (3, .int (zI (((winW (kindS S b 0 0) 1023 : Nat) : Int)))), (4, .int (nI ((winB (kindS S b 0 0) 1023) &&& (bgTo S.ow (1 <<< b) 5))))]) (st' := [.int (nI (1)), .int (nI (b01 ((winB (kindS S b 0 0) 1023 &&& bgTo S.ow (1 <<< b) 5).testBit k = true)))]) (w2 := compW T S P ((kindS S b 0 0)) O1 B Q C R tl rf) rfl ?_
      refine ev_icmpne_b1 (tgt := 142) dX6_shillSurplus_91 (by decide) (fun h91 => ?_) (fun h91 => ?_)
      · skip
        refine ev_iinc_n (x := k) (v := 1) dX6_shillSurplus_142 rfl (by decide) ?_
        refine ev_eq (lv' := [(6, .int (nI (k + 1))), (5, .int (zI (shZ (kindS S b 0 0) (winB (kindS S b 0 0) 1023 &&& bgTo S.ow (1 <<< b) 5) k))), (0, .ref 0), (1, .int (nI (b))), (2, .int (nI (wK (kindS S b 0 0) 1023))), (3, .int (zI (((winW (kindS S b 0 0) 1023 : Nat) : Int)))), (4, .int (nI ((winB (kindS S b 0 0) 1023) &&& (bgTo S.ow (1 <<< b) 5))))]) rfl rfl rfl ?_
        refine ev_b bX6_shillSurplus_145_71 (lv' := [(6, .int (nI (k + 1))), (5, .int (zI (shZ (kindS S b 0 0) (winB (kindS S b 0 0) 1023 &&& bgTo S.ow (1 <<< b) 5) k))), (0, .ref 0), (1, .int (nI (b))), (2, .int (nI (wK (kindS S b 0 0) 1023))), (3, .int (zI (((winW (kindS S b 0 0) 1023 : Nat) : Int)))), (4, .int (nI ((winB (kindS S b 0 0) 1023) &&& (bgTo S.ow (1 <<< b) 5))))]) (st' := []) (w2 := compW T S P ((kindS S b 0 0)) O1 B Q C R tl rf) rfl ?_
        rw [show nI (k + 1) = nI ((k + 1)) from congrArg nI (by omega)]
        rw [show zI (shZ (kindS S b 0 0) (winB (kindS S b 0 0) 1023 &&& bgTo S.ow (1 <<< b) 5) k) = zI (shZ (kindS S b 0 0) (winB (kindS S b 0 0) 1023 &&& bgTo S.ow (1 <<< b) 5) (k + 1)) from congrArg zI (by rw [shZ_s]; first | rw [if_pos h91] | rw [if_neg h91])]
        exact ih71 (k + 1) (by omega) 
      · skip
        refine ev_b bX6_shillSurplus_94_100 (lv' := [(6, .int (nI (k))), (5, .int (zI (shZ (kindS S b 0 0) (winB (kindS S b 0 0) 1023 &&& bgTo S.ow (1 <<< b) 5) k))), (0, .ref 0), (1, .int (nI (b))), (2, .int (nI (wK (kindS S b 0 0) 1023))), (3, .int (zI (((winW (kindS S b 0 0) 1023 : Nat) : Int)))), (4, .int (nI ((winB (kindS S b 0 0) 1023) &&& (bgTo S.ow (1 <<< b) 5))))]) (st' := [.int (nI (k)), .ref 17]) (w2 := compW T S P ((kindS S b 0 0)) O1 B Q C R tl rf) rfl ?_
        refine ev_callVN (Yc := mX3_priceOf) [17, 18, 19, 20, 21, 22, 23, 24] dX6_shillSurplus_100 tn_453 kX3_priceOf (m_X3_priceOf (kindS S b 0 0) k hU hlt71) rfl (st := []) rfl rfl rfl (by decide) hw_comp__17 (by decide) (Nat.le_of_ble_eq_true rfl) (Nat.le_refl _) (Nat.le_refl _) (fun r w' h => by obtain ⟨-, rfl⟩ := h; exact Nat.le_of_ble_eq_true rfl) ?_
        rintro _ _ ⟨rfl, rfl⟩
        refine ev_eq (lv' := [(6, .int (nI (k))), (5, .int (zI (shZ (kindS S b 0 0) (winB (kindS S b 0 0) 1023 &&& bgTo S.ow (1 <<< b) 5) k))), (0, .ref 0), (1, .int (nI (b))), (2, .int (nI (wK (kindS S b 0 0) 1023))), (3, .int (zI (((winW (kindS S b 0 0) 1023 : Nat) : Int)))), (4, .int (nI ((winB (kindS S b 0 0) 1023) &&& (bgTo S.ow (1 <<< b) 5))))]) (st' := [.int (nI (SaleN.pr (kindS S b 0 0) k))]) (w' := compW T S P ((kindS S b 0 0)) O1 B Q C R tl rf) rfl rfl xp_comp__17 ?_
        refine ev_top (y := (zI (((SaleN.pr (kindS S b 0 0) k : Nat) : Int)))) ((zI_nat _).symm.trans (congrArg zI (show ((SaleN.pr (kindS S b 0 0) k : Nat) : Int) = ((SaleN.pr (kindS S b 0 0) k : Nat) : Int) from by rfl))) ?_
        refine ev_b bX6_shillSurplus_103_115 (lv' := [(7, .int (zI (((SaleN.pr (kindS S b 0 0) k : Nat) : Int)))), (6, .int (nI (k))), (5, .int (zI (shZ (kindS S b 0 0) (winB (kindS S b 0 0) 1023 &&& bgTo S.ow (1 <<< b) 5) k))), (0, .ref 0), (1, .int (nI (b))), (2, .int (nI (wK (kindS S b 0 0) 1023))), (3, .int (zI (((winW (kindS S b 0 0) 1023 : Nat) : Int)))), (4, .int (nI ((winB (kindS S b 0 0) 1023) &&& (bgTo S.ow (1 <<< b) 5))))]) (st' := [.int (nI (k)), .int (nI (1)), .int (nI (1023)), .ref 25]) (w2 := compW T S P ((kindS S b 0 0)) O1 B Q C R tl rf) rfl ?_
        refine ev_ishl_n (by omega) dX6_shillSurplus_115 ?_
        refine ev_b bX6_shillSurplus_116_118 (lv' := [(7, .int (zI (((SaleN.pr (kindS S b 0 0) k : Nat) : Int)))), (6, .int (nI (k))), (5, .int (zI (shZ (kindS S b 0 0) (winB (kindS S b 0 0) 1023 &&& bgTo S.ow (1 <<< b) 5) k))), (0, .ref 0), (1, .int (nI (b))), (2, .int (nI (wK (kindS S b 0 0) 1023))), (3, .int (zI (((winW (kindS S b 0 0) 1023 : Nat) : Int)))), (4, .int (nI ((winB (kindS S b 0 0) 1023) &&& (bgTo S.ow (1 <<< b) 5))))]) (st' := [.int (nI (1 <<< k) ^^^ (-1)), .int (nI (1023)), .ref 25]) (w2 := compW T S P ((kindS S b 0 0)) O1 B Q C R tl rf) rfl ?_
        refine ev_iandn_n dX6_shillSurplus_118 ?_
        refine ev_callVN (Yc := mX1_first) [25, 26, 27, 28, 29] dX6_shillSurplus_119 tn_543 kX1_first (m_X1_first O1 (andn 1023 (1 <<< k)) (keys_ok hU hK1)) rfl (st := []) rfl rfl rfl (by decide) hw_comp__25 (by decide) (Nat.le_of_ble_eq_true rfl) (Nat.le_refl _) (Nat.le_refl _) (fun r w' h => by obtain ⟨-, rfl⟩ := h; exact Nat.le_of_ble_eq_true rfl) ?_
        rintro _ _ ⟨rfl, rfl⟩
        refine ev_eq (lv' := [(7, .int (zI (((SaleN.pr (kindS S b 0 0) k : Nat) : Int)))), (6, .int (nI (k))), (5, .int (zI (shZ (kindS S b 0 0) (winB (kindS S b 0 0) 1023 &&& bgTo S.ow (1 <<< b) 5) k))), (0, .ref 0), (1, .int (nI (b))), (2, .int (nI (wK (kindS S b 0 0) 1023))), (3, .int (zI (((winW (kindS S b 0 0) 1023 : Nat) : Int)))), (4, .int (nI ((winB (kindS S b 0 0) 1023) &&& (bgTo S.ow (1 <<< b) 5))))]) (st' := [.int (nI (firstTo O1.ke (andn 1023 (1 <<< k)) O1.sz))]) (w' := compW T S P ((kindS S b 0 0)) O1 B Q C R tl rf) rfl rfl xp_comp__25 ?_
        refine ev_top (y := (nI (wK (kindS S b 0 0) (andn 1023 (1 <<< k))))) (congrArg nI (show firstTo O1.ke (andn 1023 (1 <<< k)) O1.sz = wK (kindS S b 0 0) (andn 1023 (1 <<< k)) from by exact first_L hK1 _)) ?_
        refine ev_callSN (Yc := mX1_worthIn) [] dX6_shillSurplus_122 tn_633 kX1_worthIn (m_X1_worthIn (wK (kindS S b 0 0) (andn 1023 (1 <<< k))) hk3 hk4) rfl (st := []) rfl (by decide) rfl (by decide) (Nat.le_of_ble_eq_true rfl) (Nat.le_refl _) (Nat.le_refl _) (fun r w' h => by obtain ⟨-, rfl⟩ := h; exact Nat.le_of_ble_eq_true rfl) ?_
        rintro _ _ ⟨rfl, rfl⟩
        refine ev_eq (lv' := [(7, .int (zI (((SaleN.pr (kindS S b 0 0) k : Nat) : Int)))), (6, .int (nI (k))), (5, .int (zI (shZ (kindS S b 0 0) (winB (kindS S b 0 0) 1023 &&& bgTo S.ow (1 <<< b) 5) k))), (0, .ref 0), (1, .int (nI (b))), (2, .int (nI (wK (kindS S b 0 0) 1023))), (3, .int (zI (((winW (kindS S b 0 0) 1023 : Nat) : Int)))), (4, .int (nI ((winB (kindS S b 0 0) 1023) &&& (bgTo S.ow (1 <<< b) 5))))]) (st' := [.int (nI (worthK (wK (kindS S b 0 0) (andn 1023 (1 <<< k)))))]) (w' := compW T S P ((kindS S b 0 0)) O1 B Q C R tl rf) rfl rfl rfl ?_
        refine ev_top (y := (zI (((winW (kindS S b 0 0) (andn 1023 (1 <<< k)) : Nat) : Int)))) ((zI_nat _).symm.trans (congrArg zI (show ((worthK (wK (kindS S b 0 0) (andn 1023 (1 <<< k))) : Nat) : Int) = ((winW (kindS S b 0 0) (andn 1023 (1 <<< k)) : Nat) : Int) from by rfl))) ?_
        refine ev_b bX6_shillSurplus_125_128 (lv' := [(7, .int (zI (((SaleN.pr (kindS S b 0 0) k : Nat) : Int)))), (6, .int (nI (k))), (5, .int (zI (shZ (kindS S b 0 0) (winB (kindS S b 0 0) 1023 &&& bgTo S.ow (1 <<< b) 5) k))), (0, .ref 0), (1, .int (nI (b))), (2, .int (nI (wK (kindS S b 0 0) 1023))), (3, .int (zI (((winW (kindS S b 0 0) 1023 : Nat) : Int)))), (4, .int (nI ((winB (kindS S b 0 0) 1023) &&& (bgTo S.ow (1 <<< b) 5))))]) (st' := [.int (zI (((SaleN.pr (kindS S b 0 0) k : Nat) : Int))), .int (zI (((winW (kindS S b 0 0) 1023 : Nat) : Int))), .int (zI (((winW (kindS S b 0 0) (andn 1023 (1 <<< k)) : Nat) : Int)))]) (w2 := compW T S P ((kindS S b 0 0)) O1 B Q C R tl rf) rfl ?_
        refine ev_isub_z dX6_shillSurplus_128 ?_
        refine ev_isub_z dX6_shillSurplus_129 ?_
        refine ev_b bX6_shillSurplus_130_138 (lv' := [(8, .int (zI ((((winW (kindS S b 0 0) (andn 1023 (1 <<< k)) : Nat) : Int)) - ((((winW (kindS S b 0 0) 1023 : Nat) : Int)) - (((SaleN.pr (kindS S b 0 0) k : Nat) : Int)))))), (7, .int (zI (((SaleN.pr (kindS S b 0 0) k : Nat) : Int)))), (6, .int (nI (k))), (5, .int (zI (shZ (kindS S b 0 0) (winB (kindS S b 0 0) 1023 &&& bgTo S.ow (1 <<< b) 5) k))), (0, .ref 0), (1, .int (nI (b))), (2, .int (nI (wK (kindS S b 0 0) 1023))), (3, .int (zI (((winW (kindS S b 0 0) 1023 : Nat) : Int)))), (4, .int (nI ((winB (kindS S b 0 0) 1023) &&& (bgTo S.ow (1 <<< b) 5))))]) (st' := [.int (zI ((((winW (kindS S b 0 0) (andn 1023 (1 <<< k)) : Nat) : Int)) - ((((winW (kindS S b 0 0) 1023 : Nat) : Int)) - (((SaleN.pr (kindS S b 0 0) k : Nat) : Int))))), .int (zI (((SaleN.pr (kindS S b 0 0) k : Nat) : Int))), .int (zI (shZ (kindS S b 0 0) (winB (kindS S b 0 0) 1023 &&& bgTo S.ow (1 <<< b) 5) k))]) (w2 := compW T S P ((kindS S b 0 0)) O1 B Q C R tl rf) rfl ?_
        refine ev_isub_z dX6_shillSurplus_138 ?_
        refine ev_iadd_z dX6_shillSurplus_139 ?_
        refine ev_b bX6_shillSurplus_140_142 (lv' := [(5, .int (zI ((shZ (kindS S b 0 0) (winB (kindS S b 0 0) 1023 &&& bgTo S.ow (1 <<< b) 5) k) + ((((SaleN.pr (kindS S b 0 0) k : Nat) : Int)) - ((((winW (kindS S b 0 0) (andn 1023 (1 <<< k)) : Nat) : Int)) - ((((winW (kindS S b 0 0) 1023 : Nat) : Int)) - (((SaleN.pr (kindS S b 0 0) k : Nat) : Int)))))))), (8, .int (zI ((((winW (kindS S b 0 0) (andn 1023 (1 <<< k)) : Nat) : Int)) - ((((winW (kindS S b 0 0) 1023 : Nat) : Int)) - (((SaleN.pr (kindS S b 0 0) k : Nat) : Int)))))), (7, .int (zI (((SaleN.pr (kindS S b 0 0) k : Nat) : Int)))), (6, .int (nI (k))), (0, .ref 0), (1, .int (nI (b))), (2, .int (nI (wK (kindS S b 0 0) 1023))), (3, .int (zI (((winW (kindS S b 0 0) 1023 : Nat) : Int)))), (4, .int (nI ((winB (kindS S b 0 0) 1023) &&& (bgTo S.ow (1 <<< b) 5))))]) (st' := []) (w2 := compW T S P ((kindS S b 0 0)) O1 B Q C R tl rf) rfl ?_
        refine ev_iinc_n (x := k) (v := 1) dX6_shillSurplus_142 rfl (by decide) ?_
        refine ev_eq (lv' := [(6, .int (nI (k + 1))), (5, .int (zI ((shZ (kindS S b 0 0) (winB (kindS S b 0 0) 1023 &&& bgTo S.ow (1 <<< b) 5) k) + ((((SaleN.pr (kindS S b 0 0) k : Nat) : Int)) - ((((winW (kindS S b 0 0) (andn 1023 (1 <<< k)) : Nat) : Int)) - ((((winW (kindS S b 0 0) 1023 : Nat) : Int)) - (((SaleN.pr (kindS S b 0 0) k : Nat) : Int)))))))), (8, .int (zI ((((winW (kindS S b 0 0) (andn 1023 (1 <<< k)) : Nat) : Int)) - ((((winW (kindS S b 0 0) 1023 : Nat) : Int)) - (((SaleN.pr (kindS S b 0 0) k : Nat) : Int)))))), (7, .int (zI (((SaleN.pr (kindS S b 0 0) k : Nat) : Int)))), (0, .ref 0), (1, .int (nI (b))), (2, .int (nI (wK (kindS S b 0 0) 1023))), (3, .int (zI (((winW (kindS S b 0 0) 1023 : Nat) : Int)))), (4, .int (nI ((winB (kindS S b 0 0) 1023) &&& (bgTo S.ow (1 <<< b) 5))))]) rfl rfl rfl ?_
        refine ev_b bX6_shillSurplus_145_71 (lv' := [(6, .int (nI (k + 1))), (5, .int (zI ((shZ (kindS S b 0 0) (winB (kindS S b 0 0) 1023 &&& bgTo S.ow (1 <<< b) 5) k) + ((((SaleN.pr (kindS S b 0 0) k : Nat) : Int)) - ((((winW (kindS S b 0 0) (andn 1023 (1 <<< k)) : Nat) : Int)) - ((((winW (kindS S b 0 0) 1023 : Nat) : Int)) - (((SaleN.pr (kindS S b 0 0) k : Nat) : Int)))))))), (8, .int (zI ((((winW (kindS S b 0 0) (andn 1023 (1 <<< k)) : Nat) : Int)) - ((((winW (kindS S b 0 0) 1023 : Nat) : Int)) - (((SaleN.pr (kindS S b 0 0) k : Nat) : Int)))))), (7, .int (zI (((SaleN.pr (kindS S b 0 0) k : Nat) : Int)))), (0, .ref 0), (1, .int (nI (b))), (2, .int (nI (wK (kindS S b 0 0) 1023))), (3, .int (zI (((winW (kindS S b 0 0) 1023 : Nat) : Int)))), (4, .int (nI ((winB (kindS S b 0 0) 1023) &&& (bgTo S.ow (1 <<< b) 5))))]) (st' := []) (w2 := compW T S P ((kindS S b 0 0)) O1 B Q C R tl rf) rfl ?_
        refine ev_pick (lv' := [(6, .int (nI (k + 1))), (5, .int (zI ((shZ (kindS S b 0 0) (winB (kindS S b 0 0) 1023 &&& bgTo S.ow (1 <<< b) 5) k) + ((((SaleN.pr (kindS S b 0 0) k : Nat) : Int)) - ((((winW (kindS S b 0 0) (andn 1023 (1 <<< k)) : Nat) : Int)) - ((((winW (kindS S b 0 0) 1023 : Nat) : Int)) - (((SaleN.pr (kindS S b 0 0) k : Nat) : Int)))))))), (0, .ref 0), (1, .int (nI (b))), (2, .int (nI (wK (kindS S b 0 0) 1023))), (3, .int (zI (((winW (kindS S b 0 0) 1023 : Nat) : Int)))), (4, .int (nI ((winB (kindS S b 0 0) 1023) &&& (bgTo S.ow (1 <<< b) 5))))]) rfl ?_
        rw [show nI (k + 1) = nI ((k + 1)) from congrArg nI (by omega)]
        rw [show zI ((shZ (kindS S b 0 0) (winB (kindS S b 0 0) 1023 &&& bgTo S.ow (1 <<< b) 5) k) + ((((SaleN.pr (kindS S b 0 0) k : Nat) : Int)) - ((((winW (kindS S b 0 0) (andn 1023 (1 <<< k)) : Nat) : Int)) - ((((winW (kindS S b 0 0) 1023 : Nat) : Int)) - (((SaleN.pr (kindS S b 0 0) k : Nat) : Int)))))) = zI (shZ (kindS S b 0 0) (winB (kindS S b 0 0) 1023 &&& bgTo S.ow (1 <<< b) 5) (k + 1)) from congrArg zI (by rw [shZ_s]; first | rw [if_pos h91] | rw [if_neg h91])]
        exact ih71 (k + 1) (by omega) 
  refine ev_pick (lv' := [(6, .int (nI (0))), (5, .int (nI (0))), (0, .ref 0), (1, .int (nI (b))), (2, .int (nI (wK (kindS S b 0 0) 1023))), (3, .int (zI (((winW (kindS S b 0 0) 1023 : Nat) : Int)))), (4, .int (nI ((winB (kindS S b 0 0) 1023) &&& (bgTo S.ow (1 <<< b) 5))))]) rfl ?_
  rw [show nI (0) = zI (shZ (kindS S b 0 0) (winB (kindS S b 0 0) 1023 &&& bgTo S.ow (1 <<< b) 5) 0) from by rw [← zI_nat]; exact congrArg zI (by exact rfl)]
  exact L71 S.ca 0 (by omega) 
theorem bX6_gain_0_1 {l : Launch} {E : XE} : Snd l E mX6_gain 0 1 (xs [x_iload 1]) := Snd.cons (snd_iload_n (i := 1) dX6_gain_0 rfl) Snd.nil
theorem bX6_gain_17_22 {l : Launch} {E : XE} : Snd l E mX6_gain 17 22 (xs [x_aload 0, x_aload 0, x_get 7 0]) := Snd.cons (snd_aload_n (i := 0) dX6_gain_17 rfl) (Snd.cons (snd_aload_n (i := 0) dX6_gain_18 rfl) (Snd.cons (snd_get (ci := 7) (k := 0) dX6_gain_19 rfl inX6 (by decide) tw_207) Snd.nil))
theorem bX6_gain_25_31 {l : Launch} {E : XE} : Snd l E mX6_gain 25 31 (xs [x_aload 0, x_get 7 4, x_push (.int (nI 0)), x_iload 1]) := Snd.cons (snd_aload_n (i := 0) dX6_gain_25 rfl) (Snd.cons (snd_get (ci := 7) (k := 4) dX6_gain_26 rfl inX6 (by decide) tw_211) (Snd.cons (snd_iconst (v := nI 0) dX6_gain_29 (by decide)) (Snd.cons (snd_iload_n (i := 1) dX6_gain_30 rfl) Snd.nil)))
theorem bX6_gain_34_40 {l : Launch} {E : XE} : Snd l E mX6_gain 34 40 (xs [x_aload 0, x_get 7 4, x_push (.int (nI 1)), x_iload 1]) := Snd.cons (snd_aload_n (i := 0) dX6_gain_34 rfl) (Snd.cons (snd_get (ci := 7) (k := 4) dX6_gain_35 rfl inX6 (by decide) tw_211) (Snd.cons (snd_iconst (v := nI 1) dX6_gain_38 (by decide)) (Snd.cons (snd_iload_n (i := 1) dX6_gain_39 rfl) Snd.nil)))
theorem bX6_gain_44_47 {l : Launch} {E : XE} : Snd l E mX6_gain 44 47 (xs [x_istore 2, x_aload 0, x_iload 1]) := Snd.cons (snd_istore_n (i := 2) dX6_gain_44 rfl (by decide)) (Snd.cons (snd_aload_n (i := 0) dX6_gain_45 rfl) (Snd.cons (snd_iload_n (i := 1) dX6_gain_46 rfl) Snd.nil))
theorem bX6_gain_50_51 {l : Launch} {E : XE} : Snd l E mX6_gain 50 51 (xs [x_iload 2]) := Snd.cons (snd_iload_n (i := 2) dX6_gain_50 rfl) Snd.nil
set_option maxHeartbeats 4000000 in
set_option maxRecDepth 100000 in
theorem p_gain_ok {l : Launch} {E : XE} (T : TopN) (S P U : SaleN) (O : OutN) (B : BillN) (Q : SeaN) (C : ScrN) (R : PrtN) (tl rf : Nat → Nat) (b : Nat) (hS : SaleOK S) (hQ : Q.fd < 2147483648) (hb : b < 5) : MetE l E mX6_gain (5) 0 0 [.ref 0, .int (nI (b))] (compW T S P U O B Q C R tl rf) (CP T S P (C.lt) (C.sz) tl rf (some (.int (zI (shZ (kindS S b 0 0) (winB (kindS S b 0 0) 1023 &&& bgTo S.ow (1 <<< b) 5) S.ca - (wonZ S b - paidZ S b)))))) := by
  refine MetE.of (by decide +kernel) (Nat.le_of_ble_eq_true rfl) ?_
  have hca := hS.1
  have hpw := pow_ca hS
  have hac := ac_lt hS
  have hwnb := wonZ_bnd hS b
  have hpb := paid_bnd hS hb
  refine ev_eq (lv' := [(0, .ref 0), (1, .int (nI (b)))]) (st' := []) (w' := compW T S P U O B Q C R tl rf) rfl rfl rfl ?_
  refine ev_b bX6_gain_0_1 (lv' := [(0, .ref 0), (1, .int (nI (b)))]) (st' := [.int (nI (b))]) (w2 := compW T S P U O B Q C R tl rf) rfl ?_
  refine ev_callS (Yc := mX6_isBidder) [] dX6_gain_1 tw_437 kX6_isBidder (m_X6_isBidder b (by omega)) rfl (st := []) rfl (by decide) rfl (by decide) (Nat.le_of_ble_eq_true rfl) (Nat.le_refl _) (Nat.le_refl _) (fun r w' h => by obtain ⟨-, rfl⟩ := h; exact Nat.le_of_ble_eq_true rfl) ?_
  rintro _ _ ⟨rfl, rfl⟩
  refine ev_eq (lv' := [(0, .ref 0), (1, .int (nI (b)))]) (st' := [.int (nI (b01 (b < 5)))]) (w' := compW T S P U O B Q C R tl rf) rfl rfl rfl ?_
  refine ev_ifne_b (tgt := 17) dX6_gain_4 (by decide) (fun h4 => ?_) (fun h4 => (by exfalso; omega))
  refine ev_b bX6_gain_17_22 (lv' := [(0, .ref 0), (1, .int (nI (b)))]) (st' := [.ref 1, .ref 0]) (w2 := compW T S P U O B Q C R tl rf) rfl ?_
  refine ev_callV (Yc := mX6_charge) (rng 0 49) dX6_gain_22 tw_588 kX6_charge (m_X6_charge_S T S P U O B Q C R tl rf hS) rfl (st := []) rfl rfl rfl (by decide) comp_hw (by decide) (Nat.le_of_ble_eq_true rfl) (Nat.le_refl _) (Nat.le_refl _) (fun r w' h => by obtain ⟨-, O', rfl, -⟩ := h; exact Nat.le_refl 49) ?_
  rintro _ _ ⟨rfl, O1, rfl, hK1⟩
  refine ev_eq (lv' := [(0, .ref 0), (1, .int (nI (b)))]) (st' := []) (w' := compW T S P U O1 ((chB S B.li B.gw B.un B.lc)) Q C R tl rf) rfl rfl comp_xp ?_
  refine ev_b bX6_gain_25_31 (lv' := [(0, .ref 0), (1, .int (nI (b)))]) (st' := [.int (nI (b)), .int (nI (0)), .ref 30]) (w2 := compW T S P U O1 ((chB S B.li B.gw B.un B.lc)) Q C R tl rf) rfl ?_
  refine ev_callVN (Yc := mX0_payment) [30, 31, 32, 33, 34] dX6_gain_31 tn_741 kX0_payment (m_X0_payment_0 (chB S B.li B.gw B.un B.lc) b hb) rfl (st := []) rfl rfl rfl (by decide) hw_comp__30 (by decide) (Nat.le_of_ble_eq_true rfl) (Nat.le_refl _) (Nat.le_refl _) (fun r w' h => by obtain ⟨-, rfl⟩ := h; exact Nat.le_of_ble_eq_true rfl) ?_
  rintro _ _ ⟨rfl, rfl⟩
  refine ev_eq (lv' := [(0, .ref 0), (1, .int (nI (b)))]) (st' := [.int (zI (BillN.wo (chB S B.li B.gw B.un B.lc) b))]) (w' := compW T S P U O1 ((chB S B.li B.gw B.un B.lc)) Q C R tl rf) rfl rfl xp_comp__30 ?_
  refine ev_top (y := (zI (wonZ S b))) (congrArg zI (show BillN.wo (chB S B.li B.gw B.un B.lc) b = wonZ S b from by rfl)) ?_
  refine ev_b bX6_gain_34_40 (lv' := [(0, .ref 0), (1, .int (nI (b)))]) (st' := [.int (nI (b)), .int (nI (1)), .ref 30, .int (zI (wonZ S b))]) (w2 := compW T S P U O1 ((chB S B.li B.gw B.un B.lc)) Q C R tl rf) rfl ?_
  refine ev_callVN (Yc := mX0_payment) [30, 31, 32, 33, 34] dX6_gain_40 tn_741 kX0_payment (m_X0_payment_1 (chB S B.li B.gw B.un B.lc) b hb) rfl (st := [.int (zI (wonZ S b))]) rfl rfl rfl (by decide) hw_comp__30 (by decide) (Nat.le_of_ble_eq_true rfl) (Nat.le_refl _) (Nat.le_refl _) (fun r w' h => by obtain ⟨-, rfl⟩ := h; exact Nat.le_of_ble_eq_true rfl) ?_
  rintro _ _ ⟨rfl, rfl⟩
  refine ev_eq (lv' := [(0, .ref 0), (1, .int (nI (b)))]) (st' := [.int (zI (BillN.ha (chB S B.li B.gw B.un B.lc) b)), .int (zI (wonZ S b))]) (w' := compW T S P U O1 ((chB S B.li B.gw B.un B.lc)) Q C R tl rf) rfl rfl xp_comp__30 ?_
  refine ev_top (y := (zI (paidZ S b))) (congrArg zI (show BillN.ha (chB S B.li B.gw B.un B.lc) b = paidZ S b from by rfl)) ?_
  refine ev_isub_z dX6_gain_43 ?_
  refine ev_b bX6_gain_44_47 (lv' := [(2, .int (zI ((wonZ S b) - (paidZ S b)))), (0, .ref 0), (1, .int (nI (b)))]) (st' := [.int (nI (b)), .ref 0]) (w2 := compW T S P U O1 ((chB S B.li B.gw B.un B.lc)) Q C R tl rf) rfl ?_
  refine ev_callV (Yc := mX6_shillSurplus) (rng 0 49) dX6_gain_47 tw_780 kX6_shillSurplus (m_X6_shillSurplus T S P U O1 ((chB S B.li B.gw B.un B.lc)) Q C R tl rf b hS hb) rfl (st := []) rfl rfl rfl (by decide) comp_hw (by decide) (Nat.le_of_ble_eq_true rfl) (Nat.le_refl _) (Nat.le_refl _) (fun r w' h => by obtain ⟨-, O', rfl⟩ := h; exact Nat.le_refl 49) ?_
  rintro _ _ ⟨rfl, O2, rfl⟩
  refine ev_eq (lv' := [(2, .int (zI ((wonZ S b) - (paidZ S b)))), (0, .ref 0), (1, .int (nI (b)))]) (st' := [.int (zI (shZ (kindS S b 0 0) (winB (kindS S b 0 0) 1023 &&& bgTo S.ow (1 <<< b) 5) S.ca))]) (w' := compW T S P ((kindS S b 0 0)) O2 ((chB S B.li B.gw B.un B.lc)) Q C R tl rf) rfl rfl comp_xp ?_
  refine ev_b bX6_gain_50_51 (lv' := [(2, .int (zI ((wonZ S b) - (paidZ S b)))), (0, .ref 0), (1, .int (nI (b)))]) (st' := [.int (zI ((wonZ S b) - (paidZ S b))), .int (zI (shZ (kindS S b 0 0) (winB (kindS S b 0 0) 1023 &&& bgTo S.ow (1 <<< b) 5) S.ca))]) (w2 := compW T S P ((kindS S b 0 0)) O2 ((chB S B.li B.gw B.un B.lc)) Q C R tl rf) rfl ?_
  refine ev_isub_z dX6_gain_51 ?_
  exact ev_iret dX6_gain_52 rfl (Nat.le_refl 49) (Nat.le_refl _) (Nat.le_refl _) ⟨rfl, _, _, _, _, _, _, rfl, hQ, rfl, rfl⟩
