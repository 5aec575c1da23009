/-! ===== the reference: what the bidders won and pay ===== -/
def harmM (F : SaleN) (x : Nat) : Int := ((winW F (andn 1023 x) : Nat) : Int) - (((winW F 1023 : Nat) : Int) - ((prTo F.pr (winB F 1023 &&& x) F.ca : Nat) : Int))
def lfX (X : ModN) (wo ta : Nat → Int) (ow : Nat → Nat) (wn pd : Nat → Int) (li : Nat) : ModN := (X.rf, wo, ta, ow, 0, X.sh, X.lt, X.ty, X.pl, X.nu, X.od, X.tt, X.oo, X.on, wn, pd, li, X.rr, X.rn, X.dr)
/-- what is so of the reference between two calls -/
def MOK (S : SaleN) (X : ModN) : Prop := X.sh = -9 ∧ Cch S X
theorem bg_one {ow : Nat → Nat} {b : Nat} (hb : b < 5) : bgTo ow (1 <<< b) 5 = ow b := by
  have h : b = 0 ∨ b = 1 ∨ b = 2 ∨ b = 3 ∨ b = 4 := by omega
  rcases h with rfl | rfl | rfl | rfl | rfl <;> simp [bgTo, Nat.one_shiftLeft, Nat.testBit_two_pow] <;> simp [Nat.testBit]
theorem bg_cong {o1 o2 : Nat → Nat} {g : Nat} : ∀ n, (∀ b, b < n → o1 b = o2 b) → bgTo o1 g n = bgTo o2 g n
  | 0, _ => rfl
  | n + 1, h => by rw [bgTo_s, bgTo_s, bg_cong n (fun b hb => h b (by omega)), h n (by omega)]
theorem bg_ow {S : SaleN} (hS : SaleOK S) (g : Nat) : bgTo (owF S) g 5 = bgTo S.ow g 5 := bg_cong 5 (fun b hb => ((hS.2.2.2.1 b hb).1).symm)
theorem ow_one {S : SaleN} (hS : SaleOK S) {b : Nat} (hb : b < 5) : owF S b = bgTo S.ow (1 <<< b) 5 := by
  rw [bg_one hb]
  exact ((hS.2.2.2.1 b hb).1).symm
theorem won_ow {S : SaleN} (hS : SaleOK S) {b : Nat} (hb : b < 5) : prTo S.pr (winB S 1023 &&& owF S b) S.ca = wonN S b := by
  unfold wonN
  rw [ow_one hS hb]
theorem harm_one {S : SaleN} (hS : SaleOK S) {b : Nat} (hb : b < 5) : harmM S (owF S b) = harmZ S (1 <<< b) := by
  unfold harmM harmZ harmF
  rw [totZ_one hb, won_ow hS hb, ow_one hS hb]
  rfl
theorem paid_ow {S : SaleN} (hS : SaleOK S) {b : Nat} (hb : b < 5) (h : ¬ wonN S b = 0) : harmM S (owF S b) = paidZ S b := by
  rw [harm_one hS hb]
  exact (if_neg h).symm
theorem owF_lt {F : SaleN} (hF : SaleOK F) (b : Nat) : owF F b < 1024 := by
  have h1 : owF F b < 2 ^ F.ca := ownTo_lt F.ca
  have h2 := pow_ca hF
  omega
theorem bgS_lt {S : SaleN} (hS : SaleOK S) (g : Nat) : bgTo S.ow g 5 < 1024 := by
  rw [← bg_ow hS]
  have h := bgTo_lt (ow := owF S) (group := g) (N := S.ca) 5 (Nat.le_refl _) (fun b hb => ownTo_lt S.ca)
  have h2 := pow_ca hS
  omega
theorem tb31 : ∀ k, k < 5 → Nat.testBit 31 k = true := by decide
theorem lb_ok {S : SaleN} (hS : SaleOK S) {f : Nat → Int} (hf : BndZ f) : BillB (LB S) f := lfBB hS hf
theorem bk_t {S : SaleN} {f : Nat → Int} {k : Nat} (h : (blkTo (LB S) f k).1 < excS S f k) : blkTo (LB S) f (k + 1) = (excS S f k, ((k : Nat) : Int)) := if_pos h
theorem bk_f {S : SaleN} {f : Nat → Int} {k : Nat} (h : ¬ (blkTo (LB S) f k).1 < excS S f k) : blkTo (LB S) f (k + 1) = blkTo (LB S) f k := if_neg h
theorem bits_lt {F : SaleN} (hF : SaleOK F) (x : Nat) : andn F.ac x < 2147483648 := Nat.lt_of_le_of_lt (xor_and_le _ _) (ac_lt hF)
theorem bX7_winnersNow_0_5 {l : Launch} {E : XE} : Snd l E mX7_winnersNow 0 5 (xs [x_aload 0, x_aload 0, x_get 8 7]) := Snd.cons (snd_aload_n (i := 0) dX7_winnersNow_0 rfl) (Snd.cons (snd_aload_n (i := 0) dX7_winnersNow_1 rfl) (Snd.cons (snd_get (ci := 8) (k := 7) dX7_winnersNow_2 rfl inX7 (by decide) tw_921) Snd.nil))
set_option maxHeartbeats 4000000 in
set_option maxRecDepth 100000 in
theorem m_X7_winnersNow_g {l : Launch} {E : XE} (F : SaleN) (kd fg : Nat → Nat) (X : ModN) (K : Option (Nat → Nat)) (hF : SaleOK F) (hkf : KF F kd fg X.sh) (hC : Cch F X) : MetE l E mX7_winnersNow (5) 0 0 [.ref 0] (modW 0 ((F.bd, F.st, F.pr, F.ow, kd, fg, F.rs, F.ca, F.ac) : SaleN) X K) (fun r w' => r = some (.int (nI (winB F 1023))) ∧ ∃ (wo ta : Nat → Int) (ow : Nat → Nat), w' = modW 0 ((F.bd, F.st, F.pr, F.ow, kd, fg, F.rs, F.ca, F.ac) : SaleN) (tbX X wo ta ow) K ∧ TabF F wo ta) := by
  refine MetE.of (by decide +kernel) (Nat.le_of_ble_eq_true rfl) ?_
  refine ev_eq (lv' := [(0, .ref 0)]) (st' := []) (w' := modW 0 ((F.bd, F.st, F.pr, F.ow, kd, fg, F.rs, F.ca, F.ac) : SaleN) X K) rfl rfl rfl ?_
  refine ev_b bX7_winnersNow_0_5 (lv' := [(0, .ref 0)]) (st' := [.int (nI (F.ac)), .ref 0]) (w2 := modW 0 ((F.bd, F.st, F.pr, F.ow, kd, fg, F.rs, F.ca, F.ac) : SaleN) X K) rfl ?_
  refine ev_callM (Yc := mX7_winnersOf) (st := []) dX7_winnersNow_5 tw_1108 kX7_winnersOf (m_X7_winnersOf_g F kd fg X K F.ac hF hkf hC (ac_lt hF)) rfl rfl rfl rfl (by decide) (Nat.le_of_ble_eq_true rfl) (Nat.le_refl _) (Nat.le_refl _) (fun r w' h => by obtain ⟨-, wo, ta, ow, rfl, -⟩ := h; exact mod_eq) ?_
  rintro _ _ ⟨rfl, wo, ta, ow, rfl, hT⟩
  refine ev_eq (lv' := [(0, .ref 0)]) (st' := [.int (nI (winB F F.ac))]) (w' := modW 0 ((F.bd, F.st, F.pr, F.ow, kd, fg, F.rs, F.ca, F.ac) : SaleN) ((X.rf, wo, ta, ow, 0, X.sh, X.lt, X.ty, X.pl, X.nu, X.od, X.tt, X.oo, X.on, X.wn, X.pd, X.li, X.rr, X.rn, X.dr) : ModN) K) rfl rfl rfl ?_
  refine ev_top (y := (nI (winB F 1023))) (congrArg nI (show winB F F.ac = winB F 1023 from by exact (win_on hF).1)) ?_
  exact ev_iret dX7_winnersNow_8 rfl mod_le (Nat.le_refl _) (Nat.le_refl _) ⟨rfl, wo, ta, ow, rfl, hT⟩
set_option maxHeartbeats 4000000 in
set_option maxRecDepth 100000 in
theorem m_X7_winnersNow_t {l : Launch} {E : XE} (F : SaleN) (kd fg : Nat → Nat) (X : ModN) (K : Option (Nat → Nat)) (hF : SaleOK F) (h0 : X.sl = 0) (hT : TabF F X.wo X.ta) : MetE l E mX7_winnersNow (3) 0 0 [.ref 0] (modW 0 ((F.bd, F.st, F.pr, F.ow, kd, fg, F.rs, F.ca, F.ac) : SaleN) X K) (fun r w' => r = some (.int (nI (winB F 1023))) ∧ w' = modW 0 ((F.bd, F.st, F.pr, F.ow, kd, fg, F.rs, F.ca, F.ac) : SaleN) X K) := by
  refine MetE.of (by decide +kernel) (Nat.le_of_ble_eq_true rfl) ?_
  refine ev_eq (lv' := [(0, .ref 0)]) (st' := []) (w' := modW 0 ((F.bd, F.st, F.pr, F.ow, kd, fg, F.rs, F.ca, F.ac) : SaleN) X K) rfl rfl rfl ?_
  refine ev_b bX7_winnersNow_0_5 (lv' := [(0, .ref 0)]) (st' := [.int (nI (F.ac)), .ref 0]) (w2 := modW 0 ((F.bd, F.st, F.pr, F.ow, kd, fg, F.rs, F.ca, F.ac) : SaleN) X K) rfl ?_
  refine ev_callM (Yc := mX7_winnersOf) (st := []) dX7_winnersNow_5 tw_1108 kX7_winnersOf (m_X7_winnersOf_t F kd fg X K F.ac hF h0 hT (ac_lt hF)) rfl rfl rfl rfl (by decide) (Nat.le_of_ble_eq_true rfl) (Nat.le_refl _) (Nat.le_refl _) (fun r w' h => by obtain ⟨-, rfl⟩ := h; exact mod_eq) ?_
  rintro _ _ ⟨rfl, rfl⟩
  refine ev_eq (lv' := [(0, .ref 0)]) (st' := [.int (nI (winB F F.ac))]) (w' := modW 0 ((F.bd, F.st, F.pr, F.ow, kd, fg, F.rs, F.ca, F.ac) : SaleN) X K) rfl rfl rfl ?_
  refine ev_top (y := (nI (winB F 1023))) (congrArg nI (show winB F F.ac = winB F 1023 from by exact (win_on hF).1)) ?_
  exact ev_iret dX7_winnersNow_8 rfl mod_le (Nat.le_refl _) (Nat.le_refl _) ⟨rfl, rfl⟩
theorem bX7_bestOf_0_6 {l : Launch} {E : XE} : Snd l E mX7_bestOf 0 6 (xs [x_aload 0, x_get 8 9, x_aload 0, x_iload 1]) := Snd.cons (snd_aload_n (i := 0) dX7_bestOf_0 rfl) (Snd.cons (snd_get (ci := 8) (k := 9) dX7_bestOf_1 rfl inX7 (by decide) tw_923) (Snd.cons (snd_aload_n (i := 0) dX7_bestOf_4 rfl) (Snd.cons (snd_iload_n (i := 1) dX7_bestOf_5 rfl) Snd.nil)))
set_option maxHeartbeats 4000000 in
set_option maxRecDepth 100000 in
theorem m_X7_bestOf_g {l : Launch} {E : XE} (F : SaleN) (kd fg : Nat → Nat) (X : ModN) (K : Option (Nat → Nat)) (bits : Nat) (hF : SaleOK F) (hkf : KF F kd fg X.sh) (hC : Cch F X) (hm : bits < 2147483648) : MetE l E mX7_bestOf (5) 0 0 [.ref 0, .int (nI (bits))] (modW 0 ((F.bd, F.st, F.pr, F.ow, kd, fg, F.rs, F.ca, F.ac) : SaleN) X K) (fun r w' => r = some (.int (nI (winW F bits))) ∧ ∃ (wo ta : Nat → Int) (ow : Nat → Nat), w' = modW 0 ((F.bd, F.st, F.pr, F.ow, kd, fg, F.rs, F.ca, F.ac) : SaleN) (tbX X wo ta ow) K ∧ TabF F wo ta) := by
  refine MetE.of (by decide +kernel) (Nat.le_of_ble_eq_true rfl) ?_
  refine ev_eq (lv' := [(0, .ref 0), (1, .int (nI (bits)))]) (st' := []) (w' := modW 0 ((F.bd, F.st, F.pr, F.ow, kd, fg, F.rs, F.ca, F.ac) : SaleN) X K) rfl rfl rfl ?_
  refine ev_b bX7_bestOf_0_6 (lv' := [(0, .ref 0), (1, .int (nI (bits)))]) (st' := [.int (nI (bits)), .ref 0, .ref 8]) (w2 := modW 0 ((F.bd, F.st, F.pr, F.ow, kd, fg, F.rs, F.ca, F.ac) : SaleN) X K) rfl ?_
  refine ev_callM (Yc := mX7_winnersOf) (st := [.ref 8]) dX7_bestOf_6 tw_1108 kX7_winnersOf (m_X7_winnersOf_g F kd fg X K bits hF hkf hC hm) rfl rfl rfl rfl (by decide) (Nat.le_of_ble_eq_true rfl) (Nat.le_refl _) (Nat.le_refl _) (fun r w' h => by obtain ⟨-, wo, ta, ow, rfl, -⟩ := h; exact mod_eq) ?_
  rintro _ _ ⟨rfl, wo, ta, ow, rfl, hT⟩
  refine ev_eq (lv' := [(0, .ref 0), (1, .int (nI (bits)))]) (st' := [.int (nI (winB F bits)), .ref 8]) (w' := modW 0 ((F.bd, F.st, F.pr, F.ow, kd, fg, F.rs, F.ca, F.ac) : SaleN) ((X.rf, wo, ta, ow, 0, X.sh, X.lt, X.ty, X.pl, X.nu, X.od, X.tt, X.oo, X.on, X.wn, X.pd, X.li, X.rr, X.rn, X.dr) : ModN) K) rfl rfl rfl ?_
  have hwb := winB_lt hF bits
  refine ev_iald_z (f := wo) dX7_bestOf_9 rfl (by omega) (by decide) ?_
  refine ev_top (y := (nI (winW F bits))) (by rw [show wo (winB F bits) = ((winW F bits : Nat) : Int) from by rw [(hT _ (out_shl (win_spec hF (bits)).1)).1, out_wt (win_spec hF (bits)).1, (win_spec hF (bits)).2.2]]; exact zI_nat _) ?_
  exact ev_iret dX7_bestOf_10 rfl mod_le (Nat.le_refl _) (Nat.le_refl _) ⟨rfl, wo, ta, ow, rfl, hT⟩
set_option maxHeartbeats 4000000 in
set_option maxRecDepth 100000 in
theorem m_X7_bestOf_t {l : Launch} {E : XE} (F : SaleN) (kd fg : Nat → Nat) (X : ModN) (K : Option (Nat → Nat)) (bits : Nat) (hF : SaleOK F) (h0 : X.sl = 0) (hT : TabF F X.wo X.ta) (hm : bits < 2147483648) : MetE l E mX7_bestOf (3) 0 0 [.ref 0, .int (nI (bits))] (modW 0 ((F.bd, F.st, F.pr, F.ow, kd, fg, F.rs, F.ca, F.ac) : SaleN) X K) (fun r w' => r = some (.int (nI (winW F bits))) ∧ w' = modW 0 ((F.bd, F.st, F.pr, F.ow, kd, fg, F.rs, F.ca, F.ac) : SaleN) X K) := by
  refine MetE.of (by decide +kernel) (Nat.le_of_ble_eq_true rfl) ?_
  refine ev_eq (lv' := [(0, .ref 0), (1, .int (nI (bits)))]) (st' := []) (w' := modW 0 ((F.bd, F.st, F.pr, F.ow, kd, fg, F.rs, F.ca, F.ac) : SaleN) X K) rfl rfl rfl ?_
  refine ev_b bX7_bestOf_0_6 (lv' := [(0, .ref 0), (1, .int (nI (bits)))]) (st' := [.int (nI (bits)), .ref 0, .ref 8]) (w2 := modW 0 ((F.bd, F.st, F.pr, F.ow, kd, fg, F.rs, F.ca, F.ac) : SaleN) X K) rfl ?_
  refine ev_callM (Yc := mX7_winnersOf) (st := [.ref 8]) dX7_bestOf_6 tw_1108 kX7_winnersOf (m_X7_winnersOf_t F kd fg X K bits hF h0 hT hm) rfl rfl rfl rfl (by decide) (Nat.le_of_ble_eq_true rfl) (Nat.le_refl _) (Nat.le_refl _) (fun r w' h => by obtain ⟨-, rfl⟩ := h; exact mod_eq) ?_
  rintro _ _ ⟨rfl, rfl⟩
  refine ev_eq (lv' := [(0, .ref 0), (1, .int (nI (bits)))]) (st' := [.int (nI (winB F bits)), .ref 8]) (w' := modW 0 ((F.bd, F.st, F.pr, F.ow, kd, fg, F.rs, F.ca, F.ac) : SaleN) X K) rfl rfl rfl ?_
  have hwb := winB_lt hF bits
  refine ev_iald_z (f := X.wo) dX7_bestOf_9 rfl (by omega) (by decide) ?_
  refine ev_top (y := (nI (winW F bits))) (by rw [show X.wo (winB F bits) = ((winW F bits : Nat) : Int) from by rw [(hT _ (out_shl (win_spec hF (bits)).1)).1, out_wt (win_spec hF (bits)).1, (win_spec hF (bits)).2.2]]; exact zI_nat _) ?_
  exact ev_iret dX7_bestOf_10 rfl mod_le (Nat.le_refl _) (Nat.le_refl _) ⟨rfl, rfl⟩
theorem bX7_harmOf_0_1 {l : Launch} {E : XE} : Snd l E mX7_harmOf 0 1 (xs [x_aload 0]) := Snd.cons (snd_aload_n (i := 0) dX7_harmOf_0 rfl) Snd.nil
theorem bX7_harmOf_4_13 {l : Launch} {E : XE} : Snd l E mX7_harmOf 4 13 (xs [x_istore 2, x_aload 0, x_aload 0, x_get 8 7, x_iload 1, x_push (.int (-1)), x_i2 (fun x y => x ^^^ y)]) := Snd.cons (snd_istore_n (i := 2) dX7_harmOf_4 rfl (by decide)) (Snd.cons (snd_aload_n (i := 0) dX7_harmOf_5 rfl) (Snd.cons (snd_aload_n (i := 0) dX7_harmOf_6 rfl) (Snd.cons (snd_get (ci := 8) (k := 7) dX7_harmOf_7 rfl inX7 (by decide) tw_921) (Snd.cons (snd_iload_n (i := 1) dX7_harmOf_10 rfl) (Snd.cons (snd_iconst (v := -1) dX7_harmOf_11 (by decide)) (Snd.cons (snd_ixor dX7_harmOf_12) Snd.nil))))))
theorem bX7_harmOf_17_22 {l : Launch} {E : XE} : Snd l E mX7_harmOf 17 22 (xs [x_aload 0, x_get 8 9, x_iload 2]) := Snd.cons (snd_aload_n (i := 0) dX7_harmOf_17 rfl) (Snd.cons (snd_get (ci := 8) (k := 9) dX7_harmOf_18 rfl inX7 (by decide) tw_923) (Snd.cons (snd_iload_n (i := 2) dX7_harmOf_21 rfl) Snd.nil))
theorem bX7_harmOf_23_26 {l : Launch} {E : XE} : Snd l E mX7_harmOf 23 26 (xs [x_aload 0, x_iload 2, x_iload 1]) := Snd.cons (snd_aload_n (i := 0) dX7_harmOf_23 rfl) (Snd.cons (snd_iload_n (i := 2) dX7_harmOf_24 rfl) (Snd.cons (snd_iload_n (i := 1) dX7_harmOf_25 rfl) Snd.nil))
set_option maxHeartbeats 4000000 in
set_option maxRecDepth 100000 in
theorem m_X7_harmOf_g {l : Launch} {E : XE} (F : SaleN) (kd fg : Nat → Nat) (X : ModN) (K : Option (Nat → Nat)) (x : Nat) (hF : SaleOK F) (hkf : KF F kd fg X.sh) (hC : Cch F X) (hx : x < 2147483648) : MetE l E mX7_harmOf (6) 0 0 [.ref 0, .int (nI (x))] (modW 0 ((F.bd, F.st, F.pr, F.ow, kd, fg, F.rs, F.ca, F.ac) : SaleN) X K) (fun r w' => r = some (.int (zI (harmM F x))) ∧ ∃ (wo ta : Nat → Int) (ow : Nat → Nat), w' = modW 0 ((F.bd, F.st, F.pr, F.ow, kd, fg, F.rs, F.ca, F.ac) : SaleN) (tbX X wo ta ow) K ∧ TabF F wo ta) := by
  refine MetE.of (by decide +kernel) (Nat.le_of_ble_eq_true rfl) ?_
  refine ev_eq (lv' := [(0, .ref 0), (1, .int (nI (x)))]) (st' := []) (w' := modW 0 ((F.bd, F.st, F.pr, F.ow, kd, fg, F.rs, F.ca, F.ac) : SaleN) X K) rfl rfl rfl ?_
  refine ev_b bX7_harmOf_0_1 (lv' := [(0, .ref 0), (1, .int (nI (x)))]) (st' := [.ref 0]) (w2 := modW 0 ((F.bd, F.st, F.pr, F.ow, kd, fg, F.rs, F.ca, F.ac) : SaleN) X K) rfl ?_
  refine ev_callM (Yc := mX7_winnersNow) (st := []) dX7_harmOf_1 tw_1104 kX7_winnersNow (m_X7_winnersNow_g F kd fg X K hF hkf hC) rfl rfl rfl rfl (by decide) (Nat.le_of_ble_eq_true rfl) (Nat.le_refl _) (Nat.le_refl _) (fun r w' h => by obtain ⟨-, wo, ta, ow, rfl, -⟩ := h; exact mod_eq) ?_
  rintro _ _ ⟨rfl, wo, ta, ow, rfl, hT⟩
  refine ev_eq (lv' := [(0, .ref 0), (1, .int (nI (x)))]) (st' := [.int (nI (winB F 1023))]) (w' := modW 0 ((F.bd, F.st, F.pr, F.ow, kd, fg, F.rs, F.ca, F.ac) : SaleN) ((X.rf, wo, ta, ow, 0, X.sh, X.lt, X.ty, X.pl, X.nu, X.od, X.tt, X.oo, X.on, X.wn, X.pd, X.li, X.rr, X.rn, X.dr) : ModN) K) rfl rfl rfl ?_
  have hwb := winB_lt hF 1023
  refine ev_b bX7_harmOf_4_13 (lv' := [(2, .int (nI (winB F 1023))), (0, .ref 0), (1, .int (nI (x)))]) (st' := [.int (nI (x) ^^^ (-1)), .int (nI (F.ac)), .ref 0]) (w2 := modW 0 ((F.bd, F.st, F.pr, F.ow, kd, fg, F.rs, F.ca, F.ac) : SaleN) ((X.rf, wo, ta, ow, 0, X.sh, X.lt, X.ty, X.pl, X.nu, X.od, X.tt, X.oo, X.on, X.wn, X.pd, X.li, X.rr, X.rn, X.dr) : ModN) K) rfl ?_
  refine ev_iandn_n dX7_harmOf_13 ?_
  refine ev_callM (Yc := mX7_bestOf) (st := []) dX7_harmOf_14 tw_1167 kX7_bestOf (m_X7_bestOf_t F kd fg ((X.rf, wo, ta, ow, 0, X.sh, X.lt, X.ty, X.pl, X.nu, X.od, X.tt, X.oo, X.on, X.wn, X.pd, X.li, X.rr, X.rn, X.dr) : ModN) K (andn F.ac x) hF rfl hT (bits_lt hF x)) rfl rfl rfl rfl (by decide) (Nat.le_of_ble_eq_true rfl) (Nat.le_refl _) (Nat.le_refl _) (fun r w' h => by obtain ⟨-, rfl⟩ := h; exact mod_eq) ?_
  rintro _ _ ⟨rfl, rfl⟩
  refine ev_eq (lv' := [(2, .int (nI (winB F 1023))), (0, .ref 0), (1, .int (nI (x)))]) (st' := [.int (nI (winW F (andn F.ac x)))]) (w' := modW 0 ((F.bd, F.st, F.pr, F.ow, kd, fg, F.rs, F.ca, F.ac) : SaleN) ((X.rf, wo, ta, ow, 0, X.sh, X.lt, X.ty, X.pl, X.nu, X.od, X.tt, X.oo, X.on, X.wn, X.pd, X.li, X.rr, X.rn, X.dr) : ModN) K) rfl rfl rfl ?_
  refine ev_top (y := (nI (winW F (andn 1023 x)))) (congrArg nI (show winW F (andn F.ac x) = winW F (andn 1023 x) from by exact (win_but hF x).2)) ?_
  refine ev_b bX7_harmOf_17_22 (lv' := [(2, .int (nI (winB F 1023))), (0, .ref 0), (1, .int (nI (x)))]) (st' := [.int (nI (winB F 1023)), .ref 8, .int (nI (winW F (andn 1023 x)))]) (w2 := modW 0 ((F.bd, F.st, F.pr, F.ow, kd, fg, F.rs, F.ca, F.ac) : SaleN) ((X.rf, wo, ta, ow, 0, X.sh, X.lt, X.ty, X.pl, X.nu, X.od, X.tt, X.oo, X.on, X.wn, X.pd, X.li, X.rr, X.rn, X.dr) : ModN) K) rfl ?_
  refine ev_iald_z (f := wo) dX7_harmOf_22 rfl (by omega) (by decide) ?_
  refine ev_top (y := (nI (winW F 1023))) (by rw [show wo (winB F 1023) = ((winW F 1023 : Nat) : Int) from by rw [(hT _ (out_shl (win_spec hF (1023)).1)).1, out_wt (win_spec hF (1023)).1, (win_spec hF (1023)).2.2]]; exact zI_nat _) ?_
  refine ev_b bX7_harmOf_23_26 (lv' := [(2, .int (nI (winB F 1023))), (0, .ref 0), (1, .int (nI (x)))]) (st' := [.int (nI (x)), .int (nI (winB F 1023)), .ref 0, .int (nI (winW F 1023)), .int (nI (winW F (andn 1023 x)))]) (w2 := modW 0 ((F.bd, F.st, F.pr, F.ow, kd, fg, F.rs, F.ca, F.ac) : SaleN) ((X.rf, wo, ta, ow, 0, X.sh, X.lt, X.ty, X.pl, X.nu, X.od, X.tt, X.oo, X.on, X.wn, X.pd, X.li, X.rr, X.rn, X.dr) : ModN) K) rfl ?_
  refine ev_iand_n dX7_harmOf_26 ?_
  refine ev_callM (Yc := mX7_pricesOf) (st := [.int (nI (winW F 1023)), .int (nI (winW F (andn 1023 x)))]) dX7_harmOf_27 tw_1159 kX7_pricesOf (m_X7_pricesOf F kd fg ((X.rf, wo, ta, ow, 0, X.sh, X.lt, X.ty, X.pl, X.nu, X.od, X.tt, X.oo, X.on, X.wn, X.pd, X.li, X.rr, X.rn, X.dr) : ModN) K (winB F 1023 &&& x) hF (Nat.lt_of_le_of_lt Nat.and_le_left (by omega))) rfl rfl rfl rfl (by decide) (Nat.le_of_ble_eq_true rfl) (Nat.le_refl _) (Nat.le_refl _) (fun r w' h => by obtain ⟨-, rfl⟩ := h; exact mod_eq) ?_
  rintro _ _ ⟨rfl, rfl⟩
  refine ev_eq (lv' := [(2, .int (nI (winB F 1023))), (0, .ref 0), (1, .int (nI (x)))]) (st' := [.int (nI (prTo F.pr (winB F 1023 &&& x) F.ca)), .int (nI (winW F 1023)), .int (nI (winW F (andn 1023 x)))]) (w' := modW 0 ((F.bd, F.st, F.pr, F.ow, kd, fg, F.rs, F.ca, F.ac) : SaleN) ((X.rf, wo, ta, ow, 0, X.sh, X.lt, X.ty, X.pl, X.nu, X.od, X.tt, X.oo, X.on, X.wn, X.pd, X.li, X.rr, X.rn, X.dr) : ModN) K) rfl rfl rfl ?_
  refine ev_top (y := zI (((prTo F.pr (winB F 1023 &&& x) F.ca : Nat) : Int))) (zI_nat _).symm ?_
  refine ev_top2 (y := zI (((winW F 1023 : Nat) : Int))) (zI_nat _).symm ?_
  refine ev_isub_z dX7_harmOf_30 ?_
  refine ev_top2 (y := zI (((winW F (andn 1023 x) : Nat) : Int))) (zI_nat _).symm ?_
  refine ev_isub_z dX7_harmOf_31 ?_
  exact ev_iret dX7_harmOf_32 rfl mod_le (Nat.le_refl _) (Nat.le_refl _) ⟨rfl, wo, ta, ow, rfl, hT⟩
set_option maxHeartbeats 4000000 in
set_option maxRecDepth 100000 in
theorem m_X7_harmOf_t {l : Launch} {E : XE} (F : SaleN) (kd fg : Nat → Nat) (X : ModN) (K : Option (Nat → Nat)) (x : Nat) (hF : SaleOK F) (h0 : X.sl = 0) (hT : TabF F X.wo X.ta) (hx : x < 2147483648) : MetE l E mX7_harmOf (4) 0 0 [.ref 0, .int (nI (x))] (modW 0 ((F.bd, F.st, F.pr, F.ow, kd, fg, F.rs, F.ca, F.ac) : SaleN) X K) (fun r w' => r = some (.int (zI (harmM F x))) ∧ w' = modW 0 ((F.bd, F.st, F.pr, F.ow, kd, fg, F.rs, F.ca, F.ac) : SaleN) X K) := by
  refine MetE.of (by decide +kernel) (Nat.le_of_ble_eq_true rfl) ?_
  refine ev_eq (lv' := [(0, .ref 0), (1, .int (nI (x)))]) (st' := []) (w' := modW 0 ((F.bd, F.st, F.pr, F.ow, kd, fg, F.rs, F.ca, F.ac) : SaleN) X K) rfl rfl rfl ?_
  refine ev_b bX7_harmOf_0_1 (lv' := [(0, .ref 0), (1, .int (nI (x)))]) (st' := [.ref 0]) (w2 := modW 0 ((F.bd, F.st, F.pr, F.ow, kd, fg, F.rs, F.ca, F.ac) : SaleN) X K) rfl ?_
  refine ev_callM (Yc := mX7_winnersNow) (st := []) dX7_harmOf_1 tw_1104 kX7_winnersNow (m_X7_winnersNow_t F kd fg X K hF h0 hT) rfl rfl rfl rfl (by decide) (Nat.le_of_ble_eq_true rfl) (Nat.le_refl _) (Nat.le_refl _) (fun r w' h => by obtain ⟨-, rfl⟩ := h; exact mod_eq) ?_
  rintro _ _ ⟨rfl, rfl⟩
  refine ev_eq (lv' := [(0, .ref 0), (1, .int (nI (x)))]) (st' := [.int (nI (winB F 1023))]) (w' := modW 0 ((F.bd, F.st, F.pr, F.ow, kd, fg, F.rs, F.ca, F.ac) : SaleN) X K) rfl rfl rfl ?_
  have hwb := winB_lt hF 1023
  refine ev_b bX7_harmOf_4_13 (lv' := [(2, .int (nI (winB F 1023))), (0, .ref 0), (1, .int (nI (x)))]) (st' := [.int (nI (x) ^^^ (-1)), .int (nI (F.ac)), .ref 0]) (w2 := modW 0 ((F.bd, F.st, F.pr, F.ow, kd, fg, F.rs, F.ca, F.ac) : SaleN) X K) rfl ?_
  refine ev_iandn_n dX7_harmOf_13 ?_
  refine ev_callM (Yc := mX7_bestOf) (st := []) dX7_harmOf_14 tw_1167 kX7_bestOf (m_X7_bestOf_t F kd fg X K (andn F.ac x) hF h0 hT (bits_lt hF x)) rfl rfl rfl rfl (by decide) (Nat.le_of_ble_eq_true rfl) (Nat.le_refl _) (Nat.le_refl _) (fun r w' h => by obtain ⟨-, rfl⟩ := h; exact mod_eq) ?_
  rintro _ _ ⟨rfl, rfl⟩
  refine ev_eq (lv' := [(2, .int (nI (winB F 1023))), (0, .ref 0), (1, .int (nI (x)))]) (st' := [.int (nI (winW F (andn F.ac x)))]) (w' := modW 0 ((F.bd, F.st, F.pr, F.ow, kd, fg, F.rs, F.ca, F.ac) : SaleN) X K) rfl rfl rfl ?_
  refine ev_top (y := (nI (winW F (andn 1023 x)))) (congrArg nI (show winW F (andn F.ac x) = winW F (andn 1023 x) from by exact (win_but hF x).2)) ?_
  refine ev_b bX7_harmOf_17_22 (lv' := [(2, .int (nI (winB F 1023))), (0, .ref 0), (1, .int (nI (x)))]) (st' := [.int (nI (winB F 1023)), .ref 8, .int (nI (winW F (andn 1023 x)))]) (w2 := modW 0 ((F.bd, F.st, F.pr, F.ow, kd, fg, F.rs, F.ca, F.ac) : SaleN) X K) rfl ?_
  refine ev_iald_z (f := X.wo) dX7_harmOf_22 rfl (by omega) (by decide) ?_
  refine ev_top (y := (nI (winW F 1023))) (by rw [show X.wo (winB F 1023) = ((winW F 1023 : Nat) : Int) from by rw [(hT _ (out_shl (win_spec hF (1023)).1)).1, out_wt (win_spec hF (1023)).1, (win_spec hF (1023)).2.2]]; exact zI_nat _) ?_
  refine ev_b bX7_harmOf_23_26 (lv' := [(2, .int (nI (winB F 1023))), (0, .ref 0), (1, .int (nI (x)))]) (st' := [.int (nI (x)), .int (nI (winB F 1023)), .ref 0, .int (nI (winW F 1023)), .int (nI (winW F (andn 1023 x)))]) (w2 := modW 0 ((F.bd, F.st, F.pr, F.ow, kd, fg, F.rs, F.ca, F.ac) : SaleN) X K) rfl ?_
  refine ev_iand_n dX7_harmOf_26 ?_
  refine ev_callM (Yc := mX7_pricesOf) (st := [.int (nI (winW F 1023)), .int (nI (winW F (andn 1023 x)))]) dX7_harmOf_27 tw_1159 kX7_pricesOf (m_X7_pricesOf F kd fg X K (winB F 1023 &&& x) hF (Nat.lt_of_le_of_lt Nat.and_le_left (by omega))) rfl rfl rfl rfl (by decide) (Nat.le_of_ble_eq_true rfl) (Nat.le_refl _) (Nat.le_refl _) (fun r w' h => by obtain ⟨-, rfl⟩ := h; exact mod_eq) ?_
  rintro _ _ ⟨rfl, rfl⟩
  refine ev_eq (lv' := [(2, .int (nI (winB F 1023))), (0, .ref 0), (1, .int (nI (x)))]) (st' := [.int (nI (prTo F.pr (winB F 1023 &&& x) F.ca)), .int (nI (winW F 1023)), .int (nI (winW F (andn 1023 x)))]) (w' := modW 0 ((F.bd, F.st, F.pr, F.ow, kd, fg, F.rs, F.ca, F.ac) : SaleN) X K) rfl rfl rfl ?_
  refine ev_top (y := zI (((prTo F.pr (winB F 1023 &&& x) F.ca : Nat) : Int))) (zI_nat _).symm ?_
  refine ev_top2 (y := zI (((winW F 1023 : Nat) : Int))) (zI_nat _).symm ?_
  refine ev_isub_z dX7_harmOf_30 ?_
  refine ev_top2 (y := zI (((winW F (andn 1023 x) : Nat) : Int))) (zI_nat _).symm ?_
  refine ev_isub_z dX7_harmOf_31 ?_
  exact ev_iret dX7_harmOf_32 rfl mod_le (Nat.le_refl _) (Nat.le_refl _) ⟨(congrArg (fun t => some (Value.int (zI t))) (show (((winW F (andn 1023 x) : Nat) : Int)) - ((((winW F 1023 : Nat) : Int)) - (((prTo F.pr (winB F 1023 &&& x) F.ca : Nat) : Int))) = harmM F x from by exact rfl)), rfl⟩
theorem bX7_ownNow_0_1 {l : Launch} {E : XE} : Snd l E mX7_ownNow 0 1 (xs [x_aload 0]) := Snd.cons (snd_aload_n (i := 0) dX7_ownNow_0 rfl) Snd.nil
theorem bX7_ownNow_4_9 {l : Launch} {E : XE} : Snd l E mX7_ownNow 4 9 (xs [x_aload 0, x_get 8 11, x_iload 1]) := Snd.cons (snd_aload_n (i := 0) dX7_ownNow_4 rfl) (Snd.cons (snd_get (ci := 8) (k := 11) dX7_ownNow_5 rfl inX7 (by decide) tw_925) (Snd.cons (snd_iload_n (i := 1) dX7_ownNow_8 rfl) Snd.nil))
set_option maxHeartbeats 4000000 in
set_option maxRecDepth 100000 in
theorem m_X7_ownNow {l : Launch} {E : XE} (S : SaleN) (X : ModN) (K : Option (Nat → Nat)) (b : Nat) (hS : SaleOK S) (hb : b < 5) : MetE l E mX7_ownNow (1) 0 0 [.ref 0, .int (nI (b))] (modW 0 S X K) (fun r w' => r = some (.int (nI (bgTo S.ow (1 <<< b) 5))) ∧ w' = modW 0 S ((X.rf, X.wo, X.ta, (owF S), X.sl, X.sh, X.lt, X.ty, X.pl, X.nu, X.od, X.tt, X.oo, X.on, X.wn, X.pd, X.li, X.rr, X.rn, X.dr) : ModN) K) := by
  refine MetE.of (by decide +kernel) (Nat.le_of_ble_eq_true rfl) ?_
  refine ev_eq (lv' := [(0, .ref 0), (1, .int (nI (b)))]) (st' := []) (w' := modW 0 S X K) rfl rfl rfl ?_
  refine ev_b bX7_ownNow_0_1 (lv' := [(0, .ref 0), (1, .int (nI (b)))]) (st' := [.ref 0]) (w2 := modW 0 S X K) rfl ?_
  refine ev_callM (Yc := mX7_findOwn) (st := []) dX7_ownNow_1 tw_1120 kX7_findOwn (m_X7_findOwn S X K hS.1 (fun k hk => (hS.2.2.1 k hk).1)) rfl rfl rfl rfl (by decide) (Nat.le_of_ble_eq_true rfl) (Nat.le_refl _) (Nat.le_refl _) (fun r w' h => by obtain ⟨-, rfl⟩ := h; exact mod_eq) ?_
  rintro _ _ ⟨rfl, rfl⟩
  refine ev_eq (lv' := [(0, .ref 0), (1, .int (nI (b)))]) (st' := []) (w' := modW 0 S ((X.rf, X.wo, X.ta, (owF S), X.sl, X.sh, X.lt, X.ty, X.pl, X.nu, X.od, X.tt, X.oo, X.on, X.wn, X.pd, X.li, X.rr, X.rn, X.dr) : ModN) K) rfl rfl rfl ?_
  refine ev_b bX7_ownNow_4_9 (lv' := [(0, .ref 0), (1, .int (nI (b)))]) (st' := [.int (nI (b)), .ref 10]) (w2 := modW 0 S ((X.rf, X.wo, X.ta, (owF S), X.sl, X.sh, X.lt, X.ty, X.pl, X.nu, X.od, X.tt, X.oo, X.on, X.wn, X.pd, X.li, X.rr, X.rn, X.dr) : ModN) K) rfl ?_
  refine ev_iald_n (f := (owF S)) dX7_ownNow_9 rfl (by omega) (by decide) ?_
  exact ev_iret dX7_ownNow_10 rfl mod_le (Nat.le_refl _) (Nat.le_refl _) ⟨(congrArg (fun t => some (Value.int (nI t))) (show ((owF S)) b = bgTo S.ow (1 <<< b) 5 from by exact ow_one hS hb)), rfl⟩
theorem bX7_ofGroup_0_1 {l : Launch} {E : XE} : Snd l E mX7_ofGroup 0 1 (xs [x_aload 0]) := Snd.cons (snd_aload_n (i := 0) dX7_ofGroup_0 rfl) Snd.nil
theorem bX7_ofGroup_4_8 {l : Launch} {E : XE} : Snd l E mX7_ofGroup 4 8 (xs [x_push (.int (nI 0)), x_istore 2, x_push (.int (nI 0)), x_istore 3]) := Snd.cons (snd_iconst (v := nI 0) dX7_ofGroup_4 (by decide)) (Snd.cons (snd_istore_n (i := 2) dX7_ofGroup_5 rfl (by decide)) (Snd.cons (snd_iconst (v := nI 0) dX7_ofGroup_6 (by decide)) (Snd.cons (snd_istore_n (i := 3) dX7_ofGroup_7 rfl (by decide)) Snd.nil)))
theorem bX7_ofGroup_8_10 {l : Launch} {E : XE} : Snd l E mX7_ofGroup 8 10 (xs [x_iload 3, x_push (.int (nI 5))]) := Snd.cons (snd_iload_n (i := 3) dX7_ofGroup_8 rfl) (Snd.cons (snd_iconst (v := nI 5) dX7_ofGroup_9 (by decide)) Snd.nil)
theorem bX7_ofGroup_40_41 {l : Launch} {E : XE} : Snd l E mX7_ofGroup 40 41 (xs [x_iload 2]) := Snd.cons (snd_iload_n (i := 2) dX7_ofGroup_40 rfl) Snd.nil
theorem bX7_ofGroup_13_16 {l : Launch} {E : XE} : Snd l E mX7_ofGroup 13 16 (xs [x_iload 2, x_iload 1, x_iload 3]) := Snd.cons (snd_iload_n (i := 2) dX7_ofGroup_13 rfl) (Snd.cons (snd_iload_n (i := 1) dX7_ofGroup_14 rfl) (Snd.cons (snd_iload_n (i := 3) dX7_ofGroup_15 rfl) Snd.nil))
theorem bX7_ofGroup_31_32 {l : Launch} {E : XE} : Snd l E mX7_ofGroup 31 32 (xs [x_push (.int (nI 0))]) := Snd.cons (snd_iconst (v := nI 0) dX7_ofGroup_31 (by decide)) Snd.nil
theorem bX7_ofGroup_33_34 {l : Launch} {E : XE} : Snd l E mX7_ofGroup 33 34 (xs [x_istore 2]) := Snd.cons (snd_istore_n (i := 2) dX7_ofGroup_33 rfl (by decide)) Snd.nil
theorem bX7_ofGroup_37_8 {l : Launch} {E : XE} : Snd l E mX7_ofGroup 37 8 (xs [x_id]) := Snd.cons (snd_goto (tgt := 8) dX7_ofGroup_37 (by decide)) Snd.nil
theorem bX7_ofGroup_22_27 {l : Launch} {E : XE} : Snd l E mX7_ofGroup 22 27 (xs [x_aload 0, x_get 8 11, x_iload 3]) := Snd.cons (snd_aload_n (i := 0) dX7_ofGroup_22 rfl) (Snd.cons (snd_get (ci := 8) (k := 11) dX7_ofGroup_23 rfl inX7 (by decide) tw_925) (Snd.cons (snd_iload_n (i := 3) dX7_ofGroup_26 rfl) Snd.nil))
theorem bX7_ofGroup_28_32 {l : Launch} {E : XE} : Snd l E mX7_ofGroup 28 32 (xs [x_id]) := Snd.cons (snd_goto (tgt := 32) dX7_ofGroup_28 (by decide)) Snd.nil
set_option maxHeartbeats 4000000 in
set_option maxRecDepth 100000 in
theorem m_X7_ofGroup {l : Launch} {E : XE} (S : SaleN) (X : ModN) (K : Option (Nat → Nat)) (g : Nat) (hS : SaleOK S) (hg : g < 2147483648) : MetE l E mX7_ofGroup (1) 0 0 [.ref 0, .int (nI (g))] (modW 0 S X K) (fun r w' => r = some (.int (nI (bgTo S.ow g 5))) ∧ w' = modW 0 S ((X.rf, X.wo, X.ta, (owF S), X.sl, X.sh, X.lt, X.ty, X.pl, X.nu, X.od, X.tt, X.oo, X.on, X.wn, X.pd, X.li, X.rr, X.rn, X.dr) : ModN) K) := by
  refine MetE.of (by decide +kernel) (Nat.le_of_ble_eq_true rfl) ?_
  refine ev_eq (lv' := [(0, .ref 0), (1, .int (nI (g)))]) (st' := []) (w' := modW 0 S X K) rfl rfl rfl ?_
  refine ev_b bX7_ofGroup_0_1 (lv' := [(0, .ref 0), (1, .int (nI (g)))]) (st' := [.ref 0]) (w2 := modW 0 S X K) rfl ?_
  refine ev_callM (Yc := mX7_findOwn) (st := []) dX7_ofGroup_1 tw_1120 kX7_findOwn (m_X7_findOwn S X K hS.1 (fun k hk => (hS.2.2.1 k hk).1)) rfl rfl rfl rfl (by decide) (Nat.le_of_ble_eq_true rfl) (Nat.le_refl _) (Nat.le_refl _) (fun r w' h => by obtain ⟨-, rfl⟩ := h; exact mod_eq) ?_
  rintro _ _ ⟨rfl, rfl⟩
  refine ev_eq (lv' := [(0, .ref 0), (1, .int (nI (g)))]) (st' := []) (w' := modW 0 S ((X.rf, X.wo, X.ta, (owF S), X.sl, X.sh, X.lt, X.ty, X.pl, X.nu, X.od, X.tt, X.oo, X.on, X.wn, X.pd, X.li, X.rr, X.rn, X.dr) : ModN) K) rfl rfl rfl ?_
  refine ev_b bX7_ofGroup_4_8 (lv' := [(3, .int (nI (0))), (2, .int (nI (0))), (0, .ref 0), (1, .int (nI (g)))]) (st' := []) (w2 := modW 0 S ((X.rf, X.wo, X.ta, (owF S), X.sl, X.sh, X.lt, X.ty, X.pl, X.nu, X.od, X.tt, X.oo, X.on, X.wn, X.pd, X.li, X.rr, X.rn, X.dr) : ModN) K) rfl ?_
  have L8 : ∀ (j_ k : Nat), k + j_ = 5 → Ev l E mX7_ofGroup (1) 0 0 (modW 0 S X K) (fun r w' => r = some (.int (nI (bgTo S.ow g 5))) ∧ w' = modW 0 S ((X.rf, X.wo, X.ta, (owF S), X.sl, X.sh, X.lt, X.ty, X.pl, X.nu, X.od, X.tt, X.oo, X.on, X.wn, X.pd, X.li, X.rr, X.rn, X.dr) : ModN) K) 0 0 8 [(3, .int (nI (k))), (2, .int (nI (bgTo (owF S) g k))), (0, .ref 0), (1, .int (nI (g)))] [] (modW 0 S ((X.rf, X.wo, X.ta, (owF S), X.sl, X.sh, X.lt, X.ty, X.pl, X.nu, X.od, X.tt, X.oo, X.on, X.wn, X.pd, X.li, X.rr, X.rn, X.dr) : ModN) K) := by
    intro j_
    induction j_ with
    | zero =>
      intro k hk8  
      replace hk8 : k = 5 := hk8
      subst hk8
      refine ev_b bX7_ofGroup_8_10 (lv' := [(3, .int (nI (5))), (2, .int (nI (bgTo (owF S) g 5))), (0, .ref 0), (1, .int (nI (g)))]) (st' := [.int (nI (5)), .int (nI (5))]) (w2 := modW 0 S ((X.rf, X.wo, X.ta, (owF S), X.sl, X.sh, X.lt, X.ty, X.pl, X.nu, X.od, X.tt, X.oo, X.on, X.wn, X.pd, X.li, X.rr, X.rn, X.dr) : ModN) K) rfl ?_
      refine ev_icmp_ge_n (tgt := 40) (by decide) (by decide) dX7_ofGroup_10 (by decide) (fun h10 => ?_) (fun h10 => (by exfalso; omega))
      refine ev_b bX7_ofGroup_40_41 (lv' := [(3, .int (nI (5))), (2, .int (nI (bgTo (owF S) g 5))), (0, .ref 0), (1, .int (nI (g)))]) (st' := [.int (nI (bgTo (owF S) g 5))]) (w2 := modW 0 S ((X.rf, X.wo, X.ta, (owF S), X.sl, X.sh, X.lt, X.ty, X.pl, X.nu, X.od, X.tt, X.oo, X.on, X.wn, X.pd, X.li, X.rr, X.rn, X.dr) : ModN) K) rfl ?_
      exact ev_iret dX7_ofGroup_41 rfl mod_le (Nat.le_refl _) (Nat.le_refl _) ⟨(congrArg (fun t => some (Value.int (nI t))) (show bgTo (owF S) g 5 = bgTo S.ow g 5 from by exact bg_ow hS _)), rfl⟩
    | succ j_ ih8 =>
      intro k hk8  
      have hlt8 : k < 5 := by omega
      refine ev_b bX7_ofGroup_8_10 (lv' := [(3, .int (nI (k))), (2, .int (nI (bgTo (owF S) g k))), (0, .ref 0), (1, .int (nI (g)))]) (st' := [.int (nI (5)), .int (nI (k))]) (w2 := modW 0 S ((X.rf, X.wo, X.ta, (owF S), X.sl, X.sh, X.lt, X.ty, X.pl, X.nu, X.od, X.tt, X.oo, X.on, X.wn, X.pd, X.li, X.rr, X.rn, X.dr) : ModN) K) rfl ?_
      refine ev_icmp_ge_n (tgt := 40) (by omega) (by decide) dX7_ofGroup_10 (by decide) (fun h10 => (by exfalso; omega)) (fun h10 => ?_)
      refine ev_b bX7_ofGroup_13_16 (lv' := [(3, .int (nI (k))), (2, .int (nI (bgTo (owF S) g k))), (0, .ref 0), (1, .int (nI (g)))]) (st' := [.int (nI (k)), .int (nI (g)), .int (nI (bgTo (owF S) g k))]) (w2 := modW 0 S ((X.rf, X.wo, X.ta, (owF S), X.sl, X.sh, X.lt, X.ty, X.pl, X.nu, X.od, X.tt, X.oo, X.on, X.wn, X.pd, X.li, X.rr, X.rn, X.dr) : ModN) K) rfl ?_
      refine ev_callS (Yc := mX7_has) [] dX7_ofGroup_16 tw_1057 kX7_has (m_X7_has g k hg (by omega)) rfl (st := [.int (nI (bgTo (owF S) g k))]) rfl (by decide) rfl (by decide) (Nat.le_of_ble_eq_true rfl) (Nat.le_refl _) (Nat.le_refl _) (fun r w' h => by obtain ⟨-, rfl⟩ := h; exact Nat.le_of_ble_eq_true rfl) ?_
      rintro _ _ ⟨rfl, rfl⟩
      refine ev_eq (lv' := [(3, .int (nI (k))), (2, .int (nI (bgTo (owF S) g k))), (0, .ref 0), (1, .int (nI (g)))]) (st' := [.int (nI (b01 (g.testBit k = true))), .int (nI (bgTo (owF S) g k))]) (w' := modW 0 S ((X.rf, X.wo, X.ta, (owF S), X.sl, X.sh, X.lt, X.ty, X.pl, X.nu, X.od, X.tt, X.oo, X.on, X.wn, X.pd, X.li, X.rr, X.rn, X.dr) : ModN) K) rfl rfl rfl ?_
      refine ev_ifeq_b (tgt := 31) dX7_ofGroup_19 (by decide) (fun h19 => ?_) (fun h19 => ?_)
      · skip
        refine ev_b bX7_ofGroup_31_32 (lv' := [(3, .int (nI (k))), (2, .int (nI (bgTo (owF S) g k))), (0, .ref 0), (1, .int (nI (g)))]) (st' := [.int (nI (0)), .int (nI (bgTo (owF S) g k))]) (w2 := modW 0 S ((X.rf, X.wo, X.ta, (owF S), X.sl, X.sh, X.lt, X.ty, X.pl, X.nu, X.od, X.tt, X.oo, X.on, X.wn, X.pd, X.li, X.rr, X.rn, X.dr) : ModN) K) rfl ?_
        refine ev_ior_n dX7_ofGroup_32 ?_
        refine ev_b bX7_ofGroup_33_34 (lv' := [(2, .int (nI ((bgTo (owF S) g k) ||| 0))), (3, .int (nI (k))), (0, .ref 0), (1, .int (nI (g)))]) (st' := []) (w2 := modW 0 S ((X.rf, X.wo, X.ta, (owF S), X.sl, X.sh, X.lt, X.ty, X.pl, X.nu, X.od, X.tt, X.oo, X.on, X.wn, X.pd, X.li, X.rr, X.rn, X.dr) : ModN) K) rfl ?_
        refine ev_iinc_n (x := k) (v := 1) dX7_ofGroup_34 rfl (by decide) ?_
        refine ev_eq (lv' := [(3, .int (nI (k + 1))), (2, .int (nI ((bgTo (owF S) g k) ||| 0))), (0, .ref 0), (1, .int (nI (g)))]) rfl rfl rfl ?_
        refine ev_b bX7_ofGroup_37_8 (lv' := [(3, .int (nI (k + 1))), (2, .int (nI ((bgTo (owF S) g k) ||| 0))), (0, .ref 0), (1, .int (nI (g)))]) (st' := []) (w2 := modW 0 S ((X.rf, X.wo, X.ta, (owF S), X.sl, X.sh, X.lt, X.ty, X.pl, X.nu, X.od, X.tt, X.oo, X.on, X.wn, X.pd, X.li, X.rr, X.rn, X.dr) : ModN) K) rfl ?_
        rw [show nI (k + 1) = nI ((k + 1)) from congrArg nI (by omega)]
        rw [show nI ((bgTo (owF S) g k) ||| 0) = nI (bgTo (owF S) g (k + 1)) from congrArg nI (by rw [bgTo_s]; first | rw [if_neg h19, Nat.or_zero] | rw [if_pos h19])]
        exact ih8 (k + 1) (by omega) 
      · skip
        refine ev_b bX7_ofGroup_22_27 (lv' := [(3, .int (nI (k))), (2, .int (nI (bgTo (owF S) g k))), (0, .ref 0), (1, .int (nI (g)))]) (st' := [.int (nI (k)), .ref 10, .int (nI (bgTo (owF S) g k))]) (w2 := modW 0 S ((X.rf, X.wo, X.ta, (owF S), X.sl, X.sh, X.lt, X.ty, X.pl, X.nu, X.od, X.tt, X.oo, X.on, X.wn, X.pd, X.li, X.rr, X.rn, X.dr) : ModN) K) rfl ?_
        refine ev_iald_n (f := (owF S)) dX7_ofGroup_27 rfl (by omega) (by decide) ?_
        refine ev_b bX7_ofGroup_28_32 (lv' := [(3, .int (nI (k))), (2, .int (nI (bgTo (owF S) g k))), (0, .ref 0), (1, .int (nI (g)))]) (st' := [.int (nI (((owF S)) k)), .int (nI (bgTo (owF S) g k))]) (w2 := modW 0 S ((X.rf, X.wo, X.ta, (owF S), X.sl, X.sh, X.lt, X.ty, X.pl, X.nu, X.od, X.tt, X.oo, X.on, X.wn, X.pd, X.li, X.rr, X.rn, X.dr) : ModN) K) rfl ?_
        refine ev_ior_n dX7_ofGroup_32 ?_
        refine ev_b bX7_ofGroup_33_34 (lv' := [(2, .int (nI ((bgTo (owF S) g k) ||| (((owF S)) k)))), (3, .int (nI (k))), (0, .ref 0), (1, .int (nI (g)))]) (st' := []) (w2 := modW 0 S ((X.rf, X.wo, X.ta, (owF S), X.sl, X.sh, X.lt, X.ty, X.pl, X.nu, X.od, X.tt, X.oo, X.on, X.wn, X.pd, X.li, X.rr, X.rn, X.dr) : ModN) K) rfl ?_
        refine ev_iinc_n (x := k) (v := 1) dX7_ofGroup_34 rfl (by decide) ?_
        refine ev_eq (lv' := [(3, .int (nI (k + 1))), (2, .int (nI ((bgTo (owF S) g k) ||| (((owF S)) k)))), (0, .ref 0), (1, .int (nI (g)))]) rfl rfl rfl ?_
        refine ev_b bX7_ofGroup_37_8 (lv' := [(3, .int (nI (k + 1))), (2, .int (nI ((bgTo (owF S) g k) ||| (((owF S)) k)))), (0, .ref 0), (1, .int (nI (g)))]) (st' := []) (w2 := modW 0 S ((X.rf, X.wo, X.ta, (owF S), X.sl, X.sh, X.lt, X.ty, X.pl, X.nu, X.od, X.tt, X.oo, X.on, X.wn, X.pd, X.li, X.rr, X.rn, X.dr) : ModN) K) rfl ?_
        rw [show nI (k + 1) = nI ((k + 1)) from congrArg nI (by omega)]
        rw [show nI ((bgTo (owF S) g k) ||| (((owF S)) k)) = nI (bgTo (owF S) g (k + 1)) from congrArg nI (by rw [bgTo_s]; first | rw [if_neg h19, Nat.or_zero] | rw [if_pos h19])]
        exact ih8 (k + 1) (by omega) 
  exact L8 5 0 (by omega) 
theorem bX7_together_0_4 {l : Launch} {E : XE} : Snd l E mX7_together 0 4 (xs [x_push (.int (nI 0)), x_istore 2, x_push (.int (nI 0)), x_istore 3]) := Snd.cons (snd_iconst (v := nI 0) dX7_together_0 (by decide)) (Snd.cons (snd_istore_n (i := 2) dX7_together_1 rfl (by decide)) (Snd.cons (snd_iconst (v := nI 0) dX7_together_2 (by decide)) (Snd.cons (snd_istore_n (i := 3) dX7_together_3 rfl (by decide)) Snd.nil)))
theorem bX7_together_4_7 {l : Launch} {E : XE} : Snd l E mX7_together 4 7 (xs [x_iload 3, x_aload 1, x_len]) := Snd.cons (snd_iload_n (i := 3) dX7_together_4 rfl) (Snd.cons (snd_aload_n (i := 1) dX7_together_5 rfl) (Snd.cons (snd_len dX7_together_6) Snd.nil))
theorem bX7_together_22_23 {l : Launch} {E : XE} : Snd l E mX7_together 22 23 (xs [x_iload 2]) := Snd.cons (snd_iload_n (i := 2) dX7_together_22 rfl) Snd.nil
theorem bX7_together_10_13 {l : Launch} {E : XE} : Snd l E mX7_together 10 13 (xs [x_iload 2, x_aload 1, x_iload 3]) := Snd.cons (snd_iload_n (i := 2) dX7_together_10 rfl) (Snd.cons (snd_aload_n (i := 1) dX7_together_11 rfl) (Snd.cons (snd_iload_n (i := 3) dX7_together_12 rfl) Snd.nil))
theorem bX7_together_15_16 {l : Launch} {E : XE} : Snd l E mX7_together 15 16 (xs [x_istore 2]) := Snd.cons (snd_istore_n (i := 2) dX7_together_15 rfl (by decide)) Snd.nil
theorem bX7_together_19_4 {l : Launch} {E : XE} : Snd l E mX7_together 19 4 (xs [x_id]) := Snd.cons (snd_goto (tgt := 4) dX7_together_19 (by decide)) Snd.nil
set_option maxHeartbeats 4000000 in
set_option maxRecDepth 100000 in
theorem m_X7_together_p {l : Launch} {E : XE} (S : SaleN) (X : ModN) (K : Option (Nat → Nat))  : MetE l E mX7_together (0) 0 0 [.ref 0, .ref 17] (modW 0 S X K) (fun r w' => r = some (.int (zI (totZ X.pd 31 5))) ∧ w' = modW 0 S X K) := by
  refine MetE.of (by decide +kernel) (Nat.le_of_ble_eq_true rfl) ?_
  refine ev_eq (lv' := [(0, .ref 0), (1, .ref 17)]) (st' := []) (w' := modW 0 S X K) rfl rfl rfl ?_
  refine ev_b bX7_together_0_4 (lv' := [(3, .int (nI (0))), (2, .int (nI (0))), (0, .ref 0), (1, .ref 17)]) (st' := []) (w2 := modW 0 S X K) rfl ?_
  have L4 : ∀ (j_ k : Nat), k + j_ = 5 → Ev l E mX7_together (0) 0 0 (modW 0 S X K) (fun r w' => r = some (.int (zI (totZ X.pd 31 5))) ∧ w' = modW 0 S X K) 0 0 4 [(3, .int (nI (k))), (2, .int (zI (totZ X.pd 31 k))), (0, .ref 0), (1, .ref 17)] [] (modW 0 S X K) := by
    intro j_
    induction j_ with
    | zero =>
      intro k hk4  
      replace hk4 : k = 5 := hk4
      subst hk4
      refine ev_b bX7_together_4_7 (lv' := [(3, .int (nI (5))), (2, .int (zI (totZ X.pd 31 5))), (0, .ref 0), (1, .ref 17)]) (st' := [.int (nI (5)), .int (nI (5))]) (w2 := modW 0 S X K) rfl ?_
      refine ev_icmp_ge_n (tgt := 22) (by decide) (by decide) dX7_together_7 (by decide) (fun h7 => ?_) (fun h7 => (by exfalso; omega))
      refine ev_b bX7_together_22_23 (lv' := [(3, .int (nI (5))), (2, .int (zI (totZ X.pd 31 5))), (0, .ref 0), (1, .ref 17)]) (st' := [.int (zI (totZ X.pd 31 5))]) (w2 := modW 0 S X K) rfl ?_
      exact ev_iret dX7_together_23 rfl mod_le (Nat.le_refl _) (Nat.le_refl _) ⟨rfl, rfl⟩
    | succ j_ ih4 =>
      intro k hk4  
      have hlt4 : k < 5 := by omega
      refine ev_b bX7_together_4_7 (lv' := [(3, .int (nI (k))), (2, .int (zI (totZ X.pd 31 k))), (0, .ref 0), (1, .ref 17)]) (st' := [.int (nI (5)), .int (nI (k))]) (w2 := modW 0 S X K) rfl ?_
      refine ev_icmp_ge_n (tgt := 22) (by omega) (by decide) dX7_together_7 (by decide) (fun h7 => (by exfalso; omega)) (fun h7 => ?_)
      refine ev_b bX7_together_10_13 (lv' := [(3, .int (nI (k))), (2, .int (zI (totZ X.pd 31 k))), (0, .ref 0), (1, .ref 17)]) (st' := [.int (nI (k)), .ref 17, .int (zI (totZ X.pd 31 k))]) (w2 := modW 0 S X K) rfl ?_
      refine ev_iald_z (f := X.pd) dX7_together_13 rfl (by omega) (by decide) ?_
      refine ev_iadd_z dX7_together_14 ?_
      refine ev_b bX7_together_15_16 (lv' := [(2, .int (zI ((totZ X.pd 31 k) + (X.pd k)))), (3, .int (nI (k))), (0, .ref 0), (1, .ref 17)]) (st' := []) (w2 := modW 0 S X K) rfl ?_
      refine ev_iinc_n (x := k) (v := 1) dX7_together_16 rfl (by decide) ?_
      refine ev_eq (lv' := [(3, .int (nI (k + 1))), (2, .int (zI ((totZ X.pd 31 k) + (X.pd k)))), (0, .ref 0), (1, .ref 17)]) rfl rfl rfl ?_
      refine ev_b bX7_together_19_4 (lv' := [(3, .int (nI (k + 1))), (2, .int (zI ((totZ X.pd 31 k) + (X.pd k)))), (0, .ref 0), (1, .ref 17)]) (st' := []) (w2 := modW 0 S X K) rfl ?_
      rw [show nI (k + 1) = nI ((k + 1)) from congrArg nI (by omega)]
      rw [show zI ((totZ X.pd 31 k) + (X.pd k)) = zI (totZ X.pd 31 (k + 1)) from congrArg zI (by rw [totZ_s, b01_t (tb31 k hlt4)]; omega)]
      exact ih4 (k + 1) (by omega) 
  rw [show nI (0) = zI (totZ X.pd 31 0) from by rw [← zI_nat]; exact congrArg zI (by exact rfl)]
  exact L4 5 0 (by omega) 
set_option maxHeartbeats 4000000 in
set_option maxRecDepth 100000 in
theorem m_X7_together_r {l : Launch} {E : XE} (S : SaleN) (X : ModN) (K : Option (Nat → Nat))  : MetE l E mX7_together (0) 0 0 [.ref 0, .ref 1] (modW 0 S X K) (fun r w' => r = some (.int (nI (rbTo S.rs 0 6))) ∧ w' = modW 0 S X K) := by
  refine MetE.of (by decide +kernel) (Nat.le_of_ble_eq_true rfl) ?_
  refine ev_eq (lv' := [(0, .ref 0), (1, .ref 1)]) (st' := []) (w' := modW 0 S X K) rfl rfl rfl ?_
  refine ev_b bX7_together_0_4 (lv' := [(3, .int (nI (0))), (2, .int (nI (0))), (0, .ref 0), (1, .ref 1)]) (st' := []) (w2 := modW 0 S X K) rfl ?_
  have L4 : ∀ (j_ k : Nat), k + j_ = 6 → Ev l E mX7_together (0) 0 0 (modW 0 S X K) (fun r w' => r = some (.int (nI (rbTo S.rs 0 6))) ∧ w' = modW 0 S X K) 0 0 4 [(3, .int (nI (k))), (2, .int (nI (rbTo S.rs 0 k))), (0, .ref 0), (1, .ref 1)] [] (modW 0 S X K) := by
    intro j_
    induction j_ with
    | zero =>
      intro k hk4  
      replace hk4 : k = 6 := hk4
      subst hk4
      refine ev_b bX7_together_4_7 (lv' := [(3, .int (nI (6))), (2, .int (nI (rbTo S.rs 0 6))), (0, .ref 0), (1, .ref 1)]) (st' := [.int (nI (6)), .int (nI (6))]) (w2 := modW 0 S X K) rfl ?_
      refine ev_icmp_ge_n (tgt := 22) (by decide) (by decide) dX7_together_7 (by decide) (fun h7 => ?_) (fun h7 => (by exfalso; omega))
      refine ev_b bX7_together_22_23 (lv' := [(3, .int (nI (6))), (2, .int (nI (rbTo S.rs 0 6))), (0, .ref 0), (1, .ref 1)]) (st' := [.int (nI (rbTo S.rs 0 6))]) (w2 := modW 0 S X K) rfl ?_
      exact ev_iret dX7_together_23 rfl mod_le (Nat.le_refl _) (Nat.le_refl _) ⟨rfl, rfl⟩
    | succ j_ ih4 =>
      intro k hk4  
      have hlt4 : k < 6 := by omega
      refine ev_b bX7_together_4_7 (lv' := [(3, .int (nI (k))), (2, .int (nI (rbTo S.rs 0 k))), (0, .ref 0), (1, .ref 1)]) (st' := [.int (nI (6)), .int (nI (k))]) (w2 := modW 0 S X K) rfl ?_
      refine ev_icmp_ge_n (tgt := 22) (by omega) (by decide) dX7_together_7 (by decide) (fun h7 => (by exfalso; omega)) (fun h7 => ?_)
      refine ev_b bX7_together_10_13 (lv' := [(3, .int (nI (k))), (2, .int (nI (rbTo S.rs 0 k))), (0, .ref 0), (1, .ref 1)]) (st' := [.int (nI (k)), .ref 1, .int (nI (rbTo S.rs 0 k))]) (w2 := modW 0 S X K) rfl ?_
      refine ev_iald_n (f := S.rs) dX7_together_13 rfl (by omega) (by decide) ?_
      refine ev_iadd_n dX7_together_14 ?_
      refine ev_b bX7_together_15_16 (lv' := [(2, .int (nI ((rbTo S.rs 0 k) + (S.rs k)))), (3, .int (nI (k))), (0, .ref 0), (1, .ref 1)]) (st' := []) (w2 := modW 0 S X K) rfl ?_
      refine ev_iinc_n (x := k) (v := 1) dX7_together_16 rfl (by decide) ?_
      refine ev_eq (lv' := [(3, .int (nI (k + 1))), (2, .int (nI ((rbTo S.rs 0 k) + (S.rs k)))), (0, .ref 0), (1, .ref 1)]) rfl rfl rfl ?_
      refine ev_b bX7_together_19_4 (lv' := [(3, .int (nI (k + 1))), (2, .int (nI ((rbTo S.rs 0 k) + (S.rs k)))), (0, .ref 0), (1, .ref 1)]) (st' := []) (w2 := modW 0 S X K) rfl ?_
      rw [show nI (k + 1) = nI ((k + 1)) from congrArg nI (by omega)]
      rw [show nI ((rbTo S.rs 0 k) + (S.rs k)) = nI (rbTo S.rs 0 (k + 1)) from congrArg nI (by rw [rbTo_s, if_neg (by rw [Nat.zero_testBit]; decide)])]
      exact ih4 (k + 1) (by omega) 
  exact L4 6 0 (by omega) 
