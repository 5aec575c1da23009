theorem bX7_bid_0_2 {l : Launch} {E : XE} : Snd l E mX7_bid 0 2 (xs [x_aload 0, x_iload 1]) := Snd.cons (snd_aload_n (i := 0) dX7_bid_0 rfl) (Snd.cons (snd_iload_n (i := 1) dX7_bid_1 rfl) Snd.nil)
theorem bX7_bid_8_10 {l : Launch} {E : XE} : Snd l E mX7_bid 8 10 (xs [x_aload 0, x_push (.int (-1))]) := Snd.cons (snd_aload_n (i := 0) dX7_bid_8 rfl) (Snd.cons (snd_iconst (v := -1) dX7_bid_9 (by decide)) Snd.nil)
set_option maxHeartbeats 4000000 in
set_option maxRecDepth 100000 in
theorem q_bid_1 {l : Launch} {E : XE} (S : SaleN) (X : ModN) (K : Option (Nat → Nat)) (z1 z2 : Int) (hS : SaleOK S) (hM : MOK S X) (rz1 : -2147483648 ≤ z1 ∧ z1 < 2147483648) (rz2 : -2147483648 ≤ z2 ∧ z2 < 2147483648) (h : ¬ (0 ≤ z1 ∧ z1 < S.ca)) : MetE l E mX7_bid (2) 0 0 [.ref 0, .int (zI (z1)), .int (zI (z2))] (modW 0 S X K) (MP S K (X.lt) (X.ty) (X.rr) (X.rn) ((up X.rf 1 (X.rf 1 + 1))) (some (.int (-1)))) := by
  refine MetE.of (by decide +kernel) (Nat.le_of_ble_eq_true rfl) ?_
  have hca := hS.1
  have hpw := pow_ca hS
  have hac := ac_lt hS
  have hshl := shl_le hS
  
  refine ev_eq (lv' := [(0, .ref 0), (1, .int (zI (z1))), (2, .int (zI (z2)))]) (st' := []) (w' := modW 0 S X K) rfl rfl rfl ?_
  refine ev_b bX7_bid_0_2 (lv' := [(0, .ref 0), (1, .int (zI (z1))), (2, .int (zI (z2)))]) (st' := [.int (zI (z1)), .ref 0]) (w2 := modW 0 S X K) rfl ?_
  refine ev_callM (Yc := mX7_isBid) (st := []) dX7_bid_2 tw_1084 kX7_isBid (m_X7_isBid_z S X K z1 hca rz1) rfl rfl rfl rfl (by decide) (Nat.le_of_ble_eq_true rfl) (Nat.le_refl _) (Nat.le_refl _) (fun r w' h => by obtain ⟨-, rfl⟩ := h; exact mod_eq) ?_
  rintro _ _ ⟨rfl, rfl⟩
  refine ev_eq (lv' := [(0, .ref 0), (1, .int (zI (z1))), (2, .int (zI (z2)))]) (st' := [.int (nI (b01 (0 ≤ z1 ∧ z1 < S.ca)))]) (w' := modW 0 S X K) rfl rfl rfl ?_
  refine ev_ifne_b (tgt := 14) dX7_bid_5 (by decide) (fun h5 => (by exfalso; omega)) (fun h5 => ?_)
  refine ev_b bX7_bid_8_10 (lv' := [(0, .ref 0), (1, .int (zI (z1))), (2, .int (zI (z2)))]) (st' := [.int (-1), .ref 0]) (w2 := modW 0 S X K) rfl ?_
  refine ev_callM (Yc := mX7_refuses) (st := []) dX7_bid_10 tw_1012 kX7_refuses (m_X7_refuses_1 S X K) rfl rfl rfl rfl (by decide) (Nat.le_of_ble_eq_true rfl) (Nat.le_refl _) (Nat.le_refl _) (fun r w' h => by obtain ⟨-, rfl⟩ := h; exact mod_eq) ?_
  rintro _ _ ⟨rfl, rfl⟩
  refine ev_eq (lv' := [(0, .ref 0), (1, .int (zI (z1))), (2, .int (zI (z2)))]) (st' := [.int (-1)]) (w' := modW 0 S (((up X.rf 1 (X.rf 1 + 1)), X.wo, X.ta, X.ow, X.sl, X.sh, X.lt, X.ty, X.pl, X.nu, X.od, X.tt, X.oo, X.on, X.wn, X.pd, X.li, X.rr, X.rn, X.dr) : ModN) K) rfl rfl rfl ?_
  exact ev_iret dX7_bid_13 rfl mod_le (Nat.le_refl _) (Nat.le_refl _) ⟨rfl, _, rfl, hM, rfl, rfl, rfl, rfl, rfl⟩
theorem bX7_bid_14_15 {l : Launch} {E : XE} : Snd l E mX7_bid 14 15 (xs [x_iload 2]) := Snd.cons (snd_iload_n (i := 2) dX7_bid_14 rfl) Snd.nil
theorem bX7_bid_97_100 {l : Launch} {E : XE} : Snd l E mX7_bid 97 100 (xs [x_aload 0, x_push (.int (-2))]) := Snd.cons (snd_aload_n (i := 0) dX7_bid_97 rfl) (Snd.cons (snd_bipush (v := -2) dX7_bid_98 (by decide)) Snd.nil)
set_option maxHeartbeats 4000000 in
set_option maxRecDepth 100000 in
theorem q_bid_2 {l : Launch} {E : XE} (S : SaleN) (X : ModN) (K : Option (Nat → Nat)) (k : Nat) (z2 : Int) (hS : SaleOK S) (hM : MOK S X) (rz2 : -2147483648 ≤ z2 ∧ z2 < 2147483648) (hk : k < S.ca) (h : z2 < 0 ∨ 5 < z2) : MetE l E mX7_bid (2) 0 0 [.ref 0, .int (nI (k)), .int (zI (z2))] (modW 0 S X K) (MP S K (X.lt) (X.ty) (X.rr) (X.rn) ((up X.rf 2 (X.rf 2 + 1))) (some (.int (-2)))) := by
  refine MetE.of (by decide +kernel) (Nat.le_of_ble_eq_true rfl) ?_
  have hca := hS.1
  have hpw := pow_ca hS
  have hac := ac_lt hS
  have hshl := shl_le hS
  
  refine ev_eq (lv' := [(0, .ref 0), (1, .int (nI (k))), (2, .int (zI (z2)))]) (st' := []) (w' := modW 0 S X K) rfl rfl rfl ?_
  refine ev_b bX7_bid_0_2 (lv' := [(0, .ref 0), (1, .int (nI (k))), (2, .int (zI (z2)))]) (st' := [.int (nI (k)), .ref 0]) (w2 := modW 0 S X K) rfl ?_
  refine ev_callM (Yc := mX7_isBid) (st := []) dX7_bid_2 tw_1084 kX7_isBid (m_X7_isBid_n S X K k hca (by omega)) rfl rfl rfl rfl (by decide) (Nat.le_of_ble_eq_true rfl) (Nat.le_refl _) (Nat.le_refl _) (fun r w' h => by obtain ⟨-, rfl⟩ := h; exact mod_eq) ?_
  rintro _ _ ⟨rfl, rfl⟩
  refine ev_eq (lv' := [(0, .ref 0), (1, .int (nI (k))), (2, .int (zI (z2)))]) (st' := [.int (nI (b01 (k < S.ca)))]) (w' := modW 0 S X K) rfl rfl rfl ?_
  refine ev_ifne_b (tgt := 14) dX7_bid_5 (by decide) (fun h5 => ?_) (fun h5 => (by exfalso; omega))
  refine ev_b bX7_bid_14_15 (lv' := [(0, .ref 0), (1, .int (nI (k))), (2, .int (zI (z2)))]) (st' := [.int (zI (z2))]) (w2 := modW 0 S X K) rfl ?_
  refine ev_tableOut (tgt := 97) dX7_bid_15 (by rw [zI_toInt (by omega) (by omega)]; omega) (by decide) ?_
  refine ev_b bX7_bid_97_100 (lv' := [(0, .ref 0), (1, .int (nI (k))), (2, .int (zI (z2)))]) (st' := [.int (-2), .ref 0]) (w2 := modW 0 S X K) rfl ?_
  refine ev_callM (Yc := mX7_refuses) (st := []) dX7_bid_100 tw_1012 kX7_refuses (m_X7_refuses_2 S X K) rfl rfl rfl rfl (by decide) (Nat.le_of_ble_eq_true rfl) (Nat.le_refl _) (Nat.le_refl _) (fun r w' h => by obtain ⟨-, rfl⟩ := h; exact mod_eq) ?_
  rintro _ _ ⟨rfl, rfl⟩
  refine ev_eq (lv' := [(0, .ref 0), (1, .int (nI (k))), (2, .int (zI (z2)))]) (st' := [.int (-2)]) (w' := modW 0 S (((up X.rf 2 (X.rf 2 + 1)), X.wo, X.ta, X.ow, X.sl, X.sh, X.lt, X.ty, X.pl, X.nu, X.od, X.tt, X.oo, X.on, X.wn, X.pd, X.li, X.rr, X.rn, X.dr) : ModN) K) rfl rfl rfl ?_
  exact ev_iret dX7_bid_103 rfl mod_le (Nat.le_refl _) (Nat.le_refl _) ⟨rfl, _, rfl, hM, rfl, rfl, rfl, rfl, rfl⟩
theorem bX7_bid_52_57 {l : Launch} {E : XE} : Snd l E mX7_bid 52 57 (xs [x_aload 0, x_get 8 3, x_iload 1]) := Snd.cons (snd_aload_n (i := 0) dX7_bid_52 rfl) (Snd.cons (snd_get (ci := 8) (k := 3) dX7_bid_53 rfl inX7 (by decide) tw_917) (Snd.cons (snd_iload_n (i := 1) dX7_bid_56 rfl) Snd.nil))
set_option maxHeartbeats 4000000 in
set_option maxRecDepth 100000 in
theorem q_bid_w0 {l : Launch} {E : XE} (S : SaleN) (X : ModN) (K : Option (Nat → Nat)) (k : Nat) (hS : SaleOK S) (hM : MOK S X) (hk : k < S.ca) : MetE l E mX7_bid (2) 0 0 [.ref 0, .int (nI (k)), .int (nI (0))] (modW 0 S X K) (MP S K (X.lt) (X.ty) (X.rr) (X.rn) (X.rf) (some (.int (nI (S.bd k))))) := by
  refine MetE.of (by decide +kernel) (Nat.le_of_ble_eq_true rfl) ?_
  have hca := hS.1
  have hpw := pow_ca hS
  have hac := ac_lt hS
  have hshl := shl_le hS
  
  refine ev_eq (lv' := [(0, .ref 0), (1, .int (nI (k))), (2, .int (nI (0)))]) (st' := []) (w' := modW 0 S X K) rfl rfl rfl ?_
  refine ev_b bX7_bid_0_2 (lv' := [(0, .ref 0), (1, .int (nI (k))), (2, .int (nI (0)))]) (st' := [.int (nI (k)), .ref 0]) (w2 := modW 0 S X K) rfl ?_
  refine ev_callM (Yc := mX7_isBid) (st := []) dX7_bid_2 tw_1084 kX7_isBid (m_X7_isBid_n S X K k hca (by omega)) rfl rfl rfl rfl (by decide) (Nat.le_of_ble_eq_true rfl) (Nat.le_refl _) (Nat.le_refl _) (fun r w' h => by obtain ⟨-, rfl⟩ := h; exact mod_eq) ?_
  rintro _ _ ⟨rfl, rfl⟩
  refine ev_eq (lv' := [(0, .ref 0), (1, .int (nI (k))), (2, .int (nI (0)))]) (st' := [.int (nI (b01 (k < S.ca)))]) (w' := modW 0 S X K) rfl rfl rfl ?_
  refine ev_ifne_b (tgt := 14) dX7_bid_5 (by decide) (fun h5 => ?_) (fun h5 => (by exfalso; omega))
  refine ev_b bX7_bid_14_15 (lv' := [(0, .ref 0), (1, .int (nI (k))), (2, .int (nI (0)))]) (st' := [.int (nI (0))]) (w2 := modW 0 S X K) rfl ?_
  refine ev_tableIn (off := 37) (tgt := 52) dX7_bid_15 (by decide) (by decide) (by decide) (by decide) ?_
  refine ev_b bX7_bid_52_57 (lv' := [(0, .ref 0), (1, .int (nI (k))), (2, .int (nI (0)))]) (st' := [.int (nI (k)), .ref 4]) (w2 := modW 0 S X K) rfl ?_
  refine ev_iald_n (f := S.bd) dX7_bid_57 rfl (by omega) (by decide) ?_
  exact ev_iret dX7_bid_58 rfl mod_le (Nat.le_refl _) (Nat.le_refl _) ⟨rfl, _, rfl, hM, rfl, rfl, rfl, rfl, rfl⟩
theorem bX7_bid_59_64 {l : Launch} {E : XE} : Snd l E mX7_bid 59 64 (xs [x_aload 0, x_get 8 4, x_iload 1]) := Snd.cons (snd_aload_n (i := 0) dX7_bid_59 rfl) (Snd.cons (snd_get (ci := 8) (k := 4) dX7_bid_60 rfl inX7 (by decide) tw_918) (Snd.cons (snd_iload_n (i := 1) dX7_bid_63 rfl) Snd.nil))
set_option maxHeartbeats 4000000 in
set_option maxRecDepth 100000 in
theorem q_bid_w1 {l : Launch} {E : XE} (S : SaleN) (X : ModN) (K : Option (Nat → Nat)) (k : Nat) (hS : SaleOK S) (hM : MOK S X) (hk : k < S.ca) : MetE l E mX7_bid (2) 0 0 [.ref 0, .int (nI (k)), .int (nI (1))] (modW 0 S X K) (MP S K (X.lt) (X.ty) (X.rr) (X.rn) (X.rf) (some (.int (nI (S.st k))))) := by
  refine MetE.of (by decide +kernel) (Nat.le_of_ble_eq_true rfl) ?_
  have hca := hS.1
  have hpw := pow_ca hS
  have hac := ac_lt hS
  have hshl := shl_le hS
  
  refine ev_eq (lv' := [(0, .ref 0), (1, .int (nI (k))), (2, .int (nI (1)))]) (st' := []) (w' := modW 0 S X K) rfl rfl rfl ?_
  refine ev_b bX7_bid_0_2 (lv' := [(0, .ref 0), (1, .int (nI (k))), (2, .int (nI (1)))]) (st' := [.int (nI (k)), .ref 0]) (w2 := modW 0 S X K) rfl ?_
  refine ev_callM (Yc := mX7_isBid) (st := []) dX7_bid_2 tw_1084 kX7_isBid (m_X7_isBid_n S X K k hca (by omega)) rfl rfl rfl rfl (by decide) (Nat.le_of_ble_eq_true rfl) (Nat.le_refl _) (Nat.le_refl _) (fun r w' h => by obtain ⟨-, rfl⟩ := h; exact mod_eq) ?_
  rintro _ _ ⟨rfl, rfl⟩
  refine ev_eq (lv' := [(0, .ref 0), (1, .int (nI (k))), (2, .int (nI (1)))]) (st' := [.int (nI (b01 (k < S.ca)))]) (w' := modW 0 S X K) rfl rfl rfl ?_
  refine ev_ifne_b (tgt := 14) dX7_bid_5 (by decide) (fun h5 => ?_) (fun h5 => (by exfalso; omega))
  refine ev_b bX7_bid_14_15 (lv' := [(0, .ref 0), (1, .int (nI (k))), (2, .int (nI (1)))]) (st' := [.int (nI (1))]) (w2 := modW 0 S X K) rfl ?_
  refine ev_tableIn (off := 44) (tgt := 59) dX7_bid_15 (by decide) (by decide) (by decide) (by decide) ?_
  refine ev_b bX7_bid_59_64 (lv' := [(0, .ref 0), (1, .int (nI (k))), (2, .int (nI (1)))]) (st' := [.int (nI (k)), .ref 5]) (w2 := modW 0 S X K) rfl ?_
  refine ev_iald_n (f := S.st) dX7_bid_64 rfl (by omega) (by decide) ?_
  exact ev_iret dX7_bid_65 rfl mod_le (Nat.le_refl _) (Nat.le_refl _) ⟨rfl, _, rfl, hM, rfl, rfl, rfl, rfl, rfl⟩
theorem bX7_bid_66_71 {l : Launch} {E : XE} : Snd l E mX7_bid 66 71 (xs [x_aload 0, x_get 8 5, x_iload 1]) := Snd.cons (snd_aload_n (i := 0) dX7_bid_66 rfl) (Snd.cons (snd_get (ci := 8) (k := 5) dX7_bid_67 rfl inX7 (by decide) tw_919) (Snd.cons (snd_iload_n (i := 1) dX7_bid_70 rfl) Snd.nil))
set_option maxHeartbeats 4000000 in
set_option maxRecDepth 100000 in
theorem q_bid_w2 {l : Launch} {E : XE} (S : SaleN) (X : ModN) (K : Option (Nat → Nat)) (k : Nat) (hS : SaleOK S) (hM : MOK S X) (hk : k < S.ca) : MetE l E mX7_bid (2) 0 0 [.ref 0, .int (nI (k)), .int (nI (2))] (modW 0 S X K) (MP S K (X.lt) (X.ty) (X.rr) (X.rn) (X.rf) (some (.int (nI (S.pr k))))) := by
  refine MetE.of (by decide +kernel) (Nat.le_of_ble_eq_true rfl) ?_
  have hca := hS.1
  have hpw := pow_ca hS
  have hac := ac_lt hS
  have hshl := shl_le hS
  
  refine ev_eq (lv' := [(0, .ref 0), (1, .int (nI (k))), (2, .int (nI (2)))]) (st' := []) (w' := modW 0 S X K) rfl rfl rfl ?_
  refine ev_b bX7_bid_0_2 (lv' := [(0, .ref 0), (1, .int (nI (k))), (2, .int (nI (2)))]) (st' := [.int (nI (k)), .ref 0]) (w2 := modW 0 S X K) rfl ?_
  refine ev_callM (Yc := mX7_isBid) (st := []) dX7_bid_2 tw_1084 kX7_isBid (m_X7_isBid_n S X K k hca (by omega)) rfl rfl rfl rfl (by decide) (Nat.le_of_ble_eq_true rfl) (Nat.le_refl _) (Nat.le_refl _) (fun r w' h => by obtain ⟨-, rfl⟩ := h; exact mod_eq) ?_
  rintro _ _ ⟨rfl, rfl⟩
  refine ev_eq (lv' := [(0, .ref 0), (1, .int (nI (k))), (2, .int (nI (2)))]) (st' := [.int (nI (b01 (k < S.ca)))]) (w' := modW 0 S X K) rfl rfl rfl ?_
  refine ev_ifne_b (tgt := 14) dX7_bid_5 (by decide) (fun h5 => ?_) (fun h5 => (by exfalso; omega))
  refine ev_b bX7_bid_14_15 (lv' := [(0, .ref 0), (1, .int (nI (k))), (2, .int (nI (2)))]) (st' := [.int (nI (2))]) (w2 := modW 0 S X K) rfl ?_
  refine ev_tableIn (off := 51) (tgt := 66) dX7_bid_15 (by decide) (by decide) (by decide) (by decide) ?_
  refine ev_b bX7_bid_66_71 (lv' := [(0, .ref 0), (1, .int (nI (k))), (2, .int (nI (2)))]) (st' := [.int (nI (k)), .ref 6]) (w2 := modW 0 S X K) rfl ?_
  refine ev_iald_n (f := S.pr) dX7_bid_71 rfl (by omega) (by decide) ?_
  exact ev_iret dX7_bid_72 rfl mod_le (Nat.le_refl _) (Nat.le_refl _) ⟨rfl, _, rfl, hM, rfl, rfl, rfl, rfl, rfl⟩
theorem bX7_bid_73_78 {l : Launch} {E : XE} : Snd l E mX7_bid 73 78 (xs [x_aload 0, x_get 8 7, x_iload 1]) := Snd.cons (snd_aload_n (i := 0) dX7_bid_73 rfl) (Snd.cons (snd_get (ci := 8) (k := 7) dX7_bid_74 rfl inX7 (by decide) tw_921) (Snd.cons (snd_iload_n (i := 1) dX7_bid_77 rfl) Snd.nil))
theorem bX7_bid_79_80 {l : Launch} {E : XE} : Snd l E mX7_bid 79 80 (xs [x_push (.int (nI 1))]) := Snd.cons (snd_iconst (v := nI 1) dX7_bid_79 (by decide)) Snd.nil
set_option maxHeartbeats 4000000 in
set_option maxRecDepth 100000 in
theorem q_bid_w3 {l : Launch} {E : XE} (S : SaleN) (X : ModN) (K : Option (Nat → Nat)) (k : Nat) (hS : SaleOK S) (hM : MOK S X) (hk : k < S.ca) : MetE l E mX7_bid (2) 0 0 [.ref 0, .int (nI (k)), .int (nI (3))] (modW 0 S X K) (MP S K (X.lt) (X.ty) (X.rr) (X.rn) (X.rf) (some (.int (nI (b01 (S.ac.testBit k = true)))))) := by
  refine MetE.of (by decide +kernel) (Nat.le_of_ble_eq_true rfl) ?_
  have hca := hS.1
  have hpw := pow_ca hS
  have hac := ac_lt hS
  have hshl := shl_le hS
  
  refine ev_eq (lv' := [(0, .ref 0), (1, .int (nI (k))), (2, .int (nI (3)))]) (st' := []) (w' := modW 0 S X K) rfl rfl rfl ?_
  refine ev_b bX7_bid_0_2 (lv' := [(0, .ref 0), (1, .int (nI (k))), (2, .int (nI (3)))]) (st' := [.int (nI (k)), .ref 0]) (w2 := modW 0 S X K) rfl ?_
  refine ev_callM (Yc := mX7_isBid) (st := []) dX7_bid_2 tw_1084 kX7_isBid (m_X7_isBid_n S X K k hca (by omega)) rfl rfl rfl rfl (by decide) (Nat.le_of_ble_eq_true rfl) (Nat.le_refl _) (Nat.le_refl _) (fun r w' h => by obtain ⟨-, rfl⟩ := h; exact mod_eq) ?_
  rintro _ _ ⟨rfl, rfl⟩
  refine ev_eq (lv' := [(0, .ref 0), (1, .int (nI (k))), (2, .int (nI (3)))]) (st' := [.int (nI (b01 (k < S.ca)))]) (w' := modW 0 S X K) rfl rfl rfl ?_
  refine ev_ifne_b (tgt := 14) dX7_bid_5 (by decide) (fun h5 => ?_) (fun h5 => (by exfalso; omega))
  refine ev_b bX7_bid_14_15 (lv' := [(0, .ref 0), (1, .int (nI (k))), (2, .int (nI (3)))]) (st' := [.int (nI (3))]) (w2 := modW 0 S X K) rfl ?_
  refine ev_tableIn (off := 58) (tgt := 73) dX7_bid_15 (by decide) (by decide) (by decide) (by decide) ?_
  refine ev_b bX7_bid_73_78 (lv' := [(0, .ref 0), (1, .int (nI (k))), (2, .int (nI (3)))]) (st' := [.int (nI (k)), .int (nI (S.ac))]) (w2 := modW 0 S X K) rfl ?_
  refine ev_ishr_n (by omega) (by omega) dX7_bid_78 ?_
  refine ev_b bX7_bid_79_80 (lv' := [(0, .ref 0), (1, .int (nI (k))), (2, .int (nI (3)))]) (st' := [.int (nI (1)), .int (nI (S.ac >>> k))]) (w2 := modW 0 S X K) rfl ?_
  refine ev_iand_n dX7_bid_80 ?_
  refine ev_top (y := (nI (b01 (S.ac.testBit k = true)))) (by exact congrArg nI (shr1 _ _)) ?_
  exact ev_iret dX7_bid_81 rfl mod_le (Nat.le_refl _) (Nat.le_refl _) ⟨rfl, _, rfl, hM, rfl, rfl, rfl, rfl, rfl⟩
theorem bX7_bid_82_83 {l : Launch} {E : XE} : Snd l E mX7_bid 82 83 (xs [x_aload 0]) := Snd.cons (snd_aload_n (i := 0) dX7_bid_82 rfl) Snd.nil
theorem bX7_bid_86_87 {l : Launch} {E : XE} : Snd l E mX7_bid 86 87 (xs [x_iload 1]) := Snd.cons (snd_iload_n (i := 1) dX7_bid_86 rfl) Snd.nil
theorem bX7_bid_88_89 {l : Launch} {E : XE} : Snd l E mX7_bid 88 89 (xs [x_push (.int (nI 1))]) := Snd.cons (snd_iconst (v := nI 1) dX7_bid_88 (by decide)) Snd.nil
set_option maxHeartbeats 4000000 in
set_option maxRecDepth 100000 in
theorem q_bid_w4 {l : Launch} {E : XE} (S : SaleN) (X : ModN) (K : Option (Nat → Nat)) (k : Nat) (hS : SaleOK S) (hM : MOK S X) (hk : k < S.ca) : MetE l E mX7_bid (6) 0 0 [.ref 0, .int (nI (k)), .int (nI (4))] (modW 0 S X K) (MP S K (X.lt) (X.ty) (X.rr) (X.rn) (X.rf) (some (.int (nI (b01 ((winB S 1023).testBit k = true)))))) := by
  refine MetE.of (by decide +kernel) (Nat.le_of_ble_eq_true rfl) ?_
  have hca := hS.1
  have hpw := pow_ca hS
  have hac := ac_lt hS
  have hshl := shl_le hS
  
  refine ev_eq (lv' := [(0, .ref 0), (1, .int (nI (k))), (2, .int (nI (4)))]) (st' := []) (w' := modW 0 S X K) rfl rfl rfl ?_
  refine ev_b bX7_bid_0_2 (lv' := [(0, .ref 0), (1, .int (nI (k))), (2, .int (nI (4)))]) (st' := [.int (nI (k)), .ref 0]) (w2 := modW 0 S X K) rfl ?_
  refine ev_callM (Yc := mX7_isBid) (st := []) dX7_bid_2 tw_1084 kX7_isBid (m_X7_isBid_n S X K k hca (by omega)) rfl rfl rfl rfl (by decide) (Nat.le_of_ble_eq_true rfl) (Nat.le_refl _) (Nat.le_refl _) (fun r w' h => by obtain ⟨-, rfl⟩ := h; exact mod_eq) ?_
  rintro _ _ ⟨rfl, rfl⟩
  refine ev_eq (lv' := [(0, .ref 0), (1, .int (nI (k))), (2, .int (nI (4)))]) (st' := [.int (nI (b01 (k < S.ca)))]) (w' := modW 0 S X K) rfl rfl rfl ?_
  refine ev_ifne_b (tgt := 14) dX7_bid_5 (by decide) (fun h5 => ?_) (fun h5 => (by exfalso; omega))
  refine ev_b bX7_bid_14_15 (lv' := [(0, .ref 0), (1, .int (nI (k))), (2, .int (nI (4)))]) (st' := [.int (nI (4))]) (w2 := modW 0 S X K) rfl ?_
  refine ev_tableIn (off := 67) (tgt := 82) dX7_bid_15 (by decide) (by decide) (by decide) (by decide) ?_
  refine ev_b bX7_bid_82_83 (lv' := [(0, .ref 0), (1, .int (nI (k))), (2, .int (nI (4)))]) (st' := [.ref 0]) (w2 := modW 0 S X K) rfl ?_
  refine ev_callM (Yc := mX7_winnersNow) (st := []) dX7_bid_83 tw_1104 kX7_winnersNow (m_X7_winnersNow_g S S.kd S.fg X K hS (kf_self hM.1) hM.2) rfl rfl rfl rfl (by decide) (Nat.le_of_ble_eq_true rfl) (Nat.le_refl _) (Nat.le_refl _) (fun r w' h => by obtain ⟨-, wo, ta, ow, rfl, -⟩ := h; exact mod_eq) ?_
  rintro _ _ ⟨rfl, wo, ta, ow, rfl, hT⟩
  refine ev_eq (lv' := [(0, .ref 0), (1, .int (nI (k))), (2, .int (nI (4)))]) (st' := [.int (nI (winB S 1023))]) (w' := modW 0 S ((X.rf, wo, ta, ow, 0, X.sh, X.lt, X.ty, X.pl, X.nu, X.od, X.tt, X.oo, X.on, X.wn, X.pd, X.li, X.rr, X.rn, X.dr) : ModN) K) rfl rfl rfl ?_
  have hwb := winB_lt hS 1023
  refine ev_b bX7_bid_86_87 (lv' := [(0, .ref 0), (1, .int (nI (k))), (2, .int (nI (4)))]) (st' := [.int (nI (k)), .int (nI (winB S 1023))]) (w2 := modW 0 S ((X.rf, wo, ta, ow, 0, X.sh, X.lt, X.ty, X.pl, X.nu, X.od, X.tt, X.oo, X.on, X.wn, X.pd, X.li, X.rr, X.rn, X.dr) : ModN) K) rfl ?_
  refine ev_ishr_n (by omega) (by omega) dX7_bid_87 ?_
  refine ev_b bX7_bid_88_89 (lv' := [(0, .ref 0), (1, .int (nI (k))), (2, .int (nI (4)))]) (st' := [.int (nI (1)), .int (nI ((winB S 1023) >>> k))]) (w2 := modW 0 S ((X.rf, wo, ta, ow, 0, X.sh, X.lt, X.ty, X.pl, X.nu, X.od, X.tt, X.oo, X.on, X.wn, X.pd, X.li, X.rr, X.rn, X.dr) : ModN) K) rfl ?_
  refine ev_iand_n dX7_bid_89 ?_
  refine ev_top (y := (nI (b01 ((winB S 1023).testBit k = true)))) (by exact congrArg nI (shr1 _ _)) ?_
  exact ev_iret dX7_bid_90 rfl mod_le (Nat.le_refl _) (Nat.le_refl _) ⟨rfl, _, rfl, mok_fresh hM.1 rfl hT, rfl, rfl, rfl, rfl, rfl⟩
theorem bX7_bid_91_93 {l : Launch} {E : XE} : Snd l E mX7_bid 91 93 (xs [x_aload 0, x_iload 1]) := Snd.cons (snd_aload_n (i := 0) dX7_bid_91 rfl) (Snd.cons (snd_iload_n (i := 1) dX7_bid_92 rfl) Snd.nil)
set_option maxHeartbeats 4000000 in
set_option maxRecDepth 100000 in
theorem q_bid_w5 {l : Launch} {E : XE} (S : SaleN) (X : ModN) (K : Option (Nat → Nat)) (k : Nat) (hS : SaleOK S) (hM : MOK S X) (hk : k < S.ca) : MetE l E mX7_bid (3) 0 0 [.ref 0, .int (nI (k)), .int (nI (5))] (modW 0 S X K) (MP S K (X.lt) (X.ty) (X.rr) (X.rn) (X.rf) (some (.int (zI (posZ k (ordN S S.ca) 0))))) := by
  refine MetE.of (by decide +kernel) (Nat.le_of_ble_eq_true rfl) ?_
  have hca := hS.1
  have hpw := pow_ca hS
  have hac := ac_lt hS
  have hshl := shl_le hS
  
  refine ev_eq (lv' := [(0, .ref 0), (1, .int (nI (k))), (2, .int (nI (5)))]) (st' := []) (w' := modW 0 S X K) rfl rfl rfl ?_
  refine ev_b bX7_bid_0_2 (lv' := [(0, .ref 0), (1, .int (nI (k))), (2, .int (nI (5)))]) (st' := [.int (nI (k)), .ref 0]) (w2 := modW 0 S X K) rfl ?_
  refine ev_callM (Yc := mX7_isBid) (st := []) dX7_bid_2 tw_1084 kX7_isBid (m_X7_isBid_n S X K k hca (by omega)) rfl rfl rfl rfl (by decide) (Nat.le_of_ble_eq_true rfl) (Nat.le_refl _) (Nat.le_refl _) (fun r w' h => by obtain ⟨-, rfl⟩ := h; exact mod_eq) ?_
  rintro _ _ ⟨rfl, rfl⟩
  refine ev_eq (lv' := [(0, .ref 0), (1, .int (nI (k))), (2, .int (nI (5)))]) (st' := [.int (nI (b01 (k < S.ca)))]) (w' := modW 0 S X K) rfl rfl rfl ?_
  refine ev_ifne_b (tgt := 14) dX7_bid_5 (by decide) (fun h5 => ?_) (fun h5 => (by exfalso; omega))
  refine ev_b bX7_bid_14_15 (lv' := [(0, .ref 0), (1, .int (nI (k))), (2, .int (nI (5)))]) (st' := [.int (nI (5))]) (w2 := modW 0 S X K) rfl ?_
  refine ev_tableIn (off := 76) (tgt := 91) dX7_bid_15 (by decide) (by decide) (by decide) (by decide) ?_
  refine ev_b bX7_bid_91_93 (lv' := [(0, .ref 0), (1, .int (nI (k))), (2, .int (nI (5)))]) (st' := [.int (nI (k)), .ref 0]) (w2 := modW 0 S X K) rfl ?_
  refine ev_callM (Yc := mX7_placeOf) (st := []) dX7_bid_93 tw_1143 kX7_placeOf (m_X7_placeOf S X K k hS (by omega)) rfl rfl rfl rfl (by decide) (Nat.le_of_ble_eq_true rfl) (Nat.le_refl _) (Nat.le_refl _) (fun r w' h => by obtain ⟨-, oo, rfl⟩ := h; exact mod_eq) ?_
  rintro _ _ ⟨rfl, oo, rfl⟩
  refine ev_eq (lv' := [(0, .ref 0), (1, .int (nI (k))), (2, .int (nI (5)))]) (st' := [.int (zI (posZ k (ordN S S.ca) 0))]) (w' := modW 0 S ((X.rf, X.wo, X.ta, X.ow, X.sl, X.sh, X.lt, X.ty, X.pl, X.nu, X.od, X.tt, oo, (ordN S S.ca).length, X.wn, X.pd, X.li, X.rr, X.rn, X.dr) : ModN) K) rfl rfl rfl ?_
  exact ev_iret dX7_bid_96 rfl mod_le (Nat.le_refl _) (Nat.le_refl _) ⟨rfl, _, rfl, hM, rfl, rfl, rfl, rfl, rfl⟩
theorem bX7_bidder_0_3 {l : Launch} {E : XE} : Snd l E mX7_bidder 0 3 (xs [x_iload 1, x_push (.int (nI 0)), x_push (.int (nI 4))]) := Snd.cons (snd_iload_n (i := 1) dX7_bidder_0 rfl) (Snd.cons (snd_iconst (v := nI 0) dX7_bidder_1 (by decide)) (Snd.cons (snd_iconst (v := nI 4) dX7_bidder_2 (by decide)) Snd.nil))
theorem bX7_bidder_9_11 {l : Launch} {E : XE} : Snd l E mX7_bidder 9 11 (xs [x_aload 0, x_push (.int (-1))]) := Snd.cons (snd_aload_n (i := 0) dX7_bidder_9 rfl) (Snd.cons (snd_iconst (v := -1) dX7_bidder_10 (by decide)) Snd.nil)
set_option maxHeartbeats 4000000 in
set_option maxRecDepth 100000 in
theorem q_bidder_1 {l : Launch} {E : XE} (S : SaleN) (X : ModN) (K : Option (Nat → Nat)) (z1 z2 : Int) (hS : SaleOK S) (hM : MOK S X) (rz1 : -2147483648 ≤ z1 ∧ z1 < 2147483648) (rz2 : -2147483648 ≤ z2 ∧ z2 < 2147483648) (h : ¬ (0 ≤ z1 ∧ z1 < 5)) : MetE l E mX7_bidder (1) 0 0 [.ref 0, .int (zI (z1)), .int (zI (z2))] (modW 0 S X K) (MP S K (X.lt) (X.ty) (X.rr) (X.rn) ((up X.rf 1 (X.rf 1 + 1))) (some (.int (-1)))) := by
  refine MetE.of (by decide +kernel) (Nat.le_of_ble_eq_true rfl) ?_
  have hca := hS.1
  have hpw := pow_ca hS
  have hac := ac_lt hS
  have hshl := shl_le hS
  
  refine ev_eq (lv' := [(0, .ref 0), (1, .int (zI (z1))), (2, .int (zI (z2)))]) (st' := []) (w' := modW 0 S X K) rfl rfl rfl ?_
  refine ev_b bX7_bidder_0_3 (lv' := [(0, .ref 0), (1, .int (zI (z1))), (2, .int (zI (z2)))]) (st' := [.int (nI (4)), .int (nI (0)), .int (zI (z1))]) (w2 := modW 0 S X K) rfl ?_
  refine ev_callS (Yc := mX7_isIn) [] dX7_bidder_3 tw_1036 kX7_isIn (m_X7_isIn_z z1 0 4 rz1 (by decide) (by decide)) rfl (st := []) rfl (by decide) rfl (by decide) (Nat.le_of_ble_eq_true rfl) (Nat.le_refl _) (Nat.le_refl _) (fun r w' h => by obtain ⟨-, rfl⟩ := h; exact Nat.le_of_ble_eq_true rfl) ?_
  rintro _ _ ⟨rfl, rfl⟩
  refine ev_eq (lv' := [(0, .ref 0), (1, .int (zI (z1))), (2, .int (zI (z2)))]) (st' := [.int (nI (b01 (((0 : Nat) : Int) ≤ z1 ∧ z1 ≤ ((4 : Nat) : Int))))]) (w' := modW 0 S X K) rfl rfl rfl ?_
  refine ev_ifne_b (tgt := 15) dX7_bidder_6 (by decide) (fun h6 => (by exfalso; omega)) (fun h6 => ?_)
  refine ev_b bX7_bidder_9_11 (lv' := [(0, .ref 0), (1, .int (zI (z1))), (2, .int (zI (z2)))]) (st' := [.int (-1), .ref 0]) (w2 := modW 0 S X K) rfl ?_
  refine ev_callM (Yc := mX7_refuses) (st := []) dX7_bidder_11 tw_1012 kX7_refuses (m_X7_refuses_1 S X K) rfl rfl rfl rfl (by decide) (Nat.le_of_ble_eq_true rfl) (Nat.le_refl _) (Nat.le_refl _) (fun r w' h => by obtain ⟨-, rfl⟩ := h; exact mod_eq) ?_
  rintro _ _ ⟨rfl, rfl⟩
  refine ev_eq (lv' := [(0, .ref 0), (1, .int (zI (z1))), (2, .int (zI (z2)))]) (st' := [.int (-1)]) (w' := modW 0 S (((up X.rf 1 (X.rf 1 + 1)), X.wo, X.ta, X.ow, X.sl, X.sh, X.lt, X.ty, X.pl, X.nu, X.od, X.tt, X.oo, X.on, X.wn, X.pd, X.li, X.rr, X.rn, X.dr) : ModN) K) rfl rfl rfl ?_
  exact ev_iret dX7_bidder_14 rfl mod_le (Nat.le_refl _) (Nat.le_refl _) ⟨rfl, _, rfl, hM, rfl, rfl, rfl, rfl, rfl⟩
theorem bX7_bidder_15_17 {l : Launch} {E : XE} : Snd l E mX7_bidder 15 17 (xs [x_aload 0, x_iload 1]) := Snd.cons (snd_aload_n (i := 0) dX7_bidder_15 rfl) (Snd.cons (snd_iload_n (i := 1) dX7_bidder_16 rfl) Snd.nil)
theorem bX7_bidder_20_22 {l : Launch} {E : XE} : Snd l E mX7_bidder 20 22 (xs [x_istore 3, x_iload 2]) := Snd.cons (snd_istore_n (i := 3) dX7_bidder_20 rfl (by decide)) (Snd.cons (snd_iload_n (i := 2) dX7_bidder_21 rfl) Snd.nil)
theorem bX7_bidder_89_92 {l : Launch} {E : XE} : Snd l E mX7_bidder 89 92 (xs [x_aload 0, x_push (.int (-2))]) := Snd.cons (snd_aload_n (i := 0) dX7_bidder_89 rfl) (Snd.cons (snd_bipush (v := -2) dX7_bidder_90 (by decide)) Snd.nil)
set_option maxHeartbeats 4000000 in
set_option maxRecDepth 100000 in
theorem q_bidder_2 {l : Launch} {E : XE} (S : SaleN) (X : ModN) (K : Option (Nat → Nat)) (b : Nat) (z2 : Int) (hS : SaleOK S) (hM : MOK S X) (rz2 : -2147483648 ≤ z2 ∧ z2 < 2147483648) (hb : b < 5) (h : z2 < 0 ∨ 4 < z2) : MetE l E mX7_bidder (2) 0 0 [.ref 0, .int (nI (b)), .int (zI (z2))] (modW 0 S X K) (MP S K (X.lt) (X.ty) (X.rr) (X.rn) ((up X.rf 2 (X.rf 2 + 1))) (some (.int (-2)))) := by
  refine MetE.of (by decide +kernel) (Nat.le_of_ble_eq_true rfl) ?_
  have hca := hS.1
  have hpw := pow_ca hS
  have hac := ac_lt hS
  have hshl := shl_le hS
  
  refine ev_eq (lv' := [(0, .ref 0), (1, .int (nI (b))), (2, .int (zI (z2)))]) (st' := []) (w' := modW 0 S X K) rfl rfl rfl ?_
  refine ev_b bX7_bidder_0_3 (lv' := [(0, .ref 0), (1, .int (nI (b))), (2, .int (zI (z2)))]) (st' := [.int (nI (4)), .int (nI (0)), .int (nI (b))]) (w2 := modW 0 S X K) rfl ?_
  refine ev_callS (Yc := mX7_isIn) [] dX7_bidder_3 tw_1036 kX7_isIn (m_X7_isIn_n b 0 4 (by omega) (by decide) (by decide)) rfl (st := []) rfl (by decide) rfl (by decide) (Nat.le_of_ble_eq_true rfl) (Nat.le_refl _) (Nat.le_refl _) (fun r w' h => by obtain ⟨-, rfl⟩ := h; exact Nat.le_of_ble_eq_true rfl) ?_
  rintro _ _ ⟨rfl, rfl⟩
  refine ev_eq (lv' := [(0, .ref 0), (1, .int (nI (b))), (2, .int (zI (z2)))]) (st' := [.int (nI (b01 (0 ≤ b ∧ b ≤ 4)))]) (w' := modW 0 S X K) rfl rfl rfl ?_
  refine ev_ifne_b (tgt := 15) dX7_bidder_6 (by decide) (fun h6 => ?_) (fun h6 => (by exfalso; omega))
  refine ev_b bX7_bidder_15_17 (lv' := [(0, .ref 0), (1, .int (nI (b))), (2, .int (zI (z2)))]) (st' := [.int (nI (b)), .ref 0]) (w2 := modW 0 S X K) rfl ?_
  refine ev_callM (Yc := mX7_ownNow) (st := []) dX7_bidder_17 tw_1155 kX7_ownNow (m_X7_ownNow S X K b hS hb) rfl rfl rfl rfl (by decide) (Nat.le_of_ble_eq_true rfl) (Nat.le_refl _) (Nat.le_refl _) (fun r w' h => by obtain ⟨-, rfl⟩ := h; exact mod_eq) ?_
  rintro _ _ ⟨rfl, rfl⟩
  refine ev_eq (lv' := [(0, .ref 0), (1, .int (nI (b))), (2, .int (zI (z2)))]) (st' := [.int (nI (bgTo S.ow (1 <<< b) 5))]) (w' := modW 0 S ((X.rf, X.wo, X.ta, (owF S), X.sl, X.sh, X.lt, X.ty, X.pl, X.nu, X.od, X.tt, X.oo, X.on, X.wn, X.pd, X.li, X.rr, X.rn, X.dr) : ModN) K) rfl rfl rfl ?_
  refine ev_b bX7_bidder_20_22 (lv' := [(3, .int (nI (bgTo S.ow (1 <<< b) 5))), (0, .ref 0), (1, .int (nI (b))), (2, .int (zI (z2)))]) (st' := [.int (zI (z2))]) (w2 := modW 0 S ((X.rf, X.wo, X.ta, (owF S), X.sl, X.sh, X.lt, X.ty, X.pl, X.nu, X.od, X.tt, X.oo, X.on, X.wn, X.pd, X.li, X.rr, X.rn, X.dr) : ModN) K) rfl ?_
  refine ev_tableOut (tgt := 89) dX7_bidder_22 (by rw [zI_toInt (by omega) (by omega)]; omega) (by decide) ?_
  refine ev_b bX7_bidder_89_92 (lv' := [(3, .int (nI (bgTo S.ow (1 <<< b) 5))), (0, .ref 0), (1, .int (nI (b))), (2, .int (zI (z2)))]) (st' := [.int (-2), .ref 0]) (w2 := modW 0 S ((X.rf, X.wo, X.ta, (owF S), X.sl, X.sh, X.lt, X.ty, X.pl, X.nu, X.od, X.tt, X.oo, X.on, X.wn, X.pd, X.li, X.rr, X.rn, X.dr) : ModN) K) rfl ?_
  refine ev_callM (Yc := mX7_refuses) (st := []) dX7_bidder_92 tw_1012 kX7_refuses (m_X7_refuses_2 S ((X.rf, X.wo, X.ta, (owF S), X.sl, X.sh, X.lt, X.ty, X.pl, X.nu, X.od, X.tt, X.oo, X.on, X.wn, X.pd, X.li, X.rr, X.rn, X.dr) : ModN) K) rfl rfl rfl rfl (by decide) (Nat.le_of_ble_eq_true rfl) (Nat.le_refl _) (Nat.le_refl _) (fun r w' h => by obtain ⟨-, rfl⟩ := h; exact mod_eq) ?_
  rintro _ _ ⟨rfl, rfl⟩
  refine ev_eq (lv' := [(3, .int (nI (bgTo S.ow (1 <<< b) 5))), (0, .ref 0), (1, .int (nI (b))), (2, .int (zI (z2)))]) (st' := [.int (-2)]) (w' := modW 0 S (((up X.rf 2 (X.rf 2 + 1)), X.wo, X.ta, (owF S), X.sl, X.sh, X.lt, X.ty, X.pl, X.nu, X.od, X.tt, X.oo, X.on, X.wn, X.pd, X.li, X.rr, X.rn, X.dr) : ModN) K) rfl rfl rfl ?_
  exact ev_iret dX7_bidder_95 rfl mod_le (Nat.le_refl _) (Nat.le_refl _) ⟨rfl, _, rfl, hM, rfl, rfl, rfl, rfl, rfl⟩
theorem bX7_bidder_56_61 {l : Launch} {E : XE} : Snd l E mX7_bidder 56 61 (xs [x_aload 0, x_get 8 1, x_iload 1]) := Snd.cons (snd_aload_n (i := 0) dX7_bidder_56 rfl) (Snd.cons (snd_get (ci := 8) (k := 1) dX7_bidder_57 rfl inX7 (by decide) tw_915) (Snd.cons (snd_iload_n (i := 1) dX7_bidder_60 rfl) Snd.nil))
set_option maxHeartbeats 4000000 in
set_option maxRecDepth 100000 in
theorem q_bidder_w0 {l : Launch} {E : XE} (S : SaleN) (X : ModN) (K : Option (Nat → Nat)) (b : Nat) (hS : SaleOK S) (hM : MOK S X) (hb : b < 5) : MetE l E mX7_bidder (2) 0 0 [.ref 0, .int (nI (b)), .int (nI (0))] (modW 0 S X K) (MP S K (X.lt) (X.ty) (X.rr) (X.rn) (X.rf) (some (.int (nI (S.kd b))))) := by
  refine MetE.of (by decide +kernel) (Nat.le_of_ble_eq_true rfl) ?_
  have hca := hS.1
  have hpw := pow_ca hS
  have hac := ac_lt hS
  have hshl := shl_le hS
  have hol := bgS_lt hS (1 <<< b)
  refine ev_eq (lv' := [(0, .ref 0), (1, .int (nI (b))), (2, .int (nI (0)))]) (st' := []) (w' := modW 0 S X K) rfl rfl rfl ?_
  refine ev_b bX7_bidder_0_3 (lv' := [(0, .ref 0), (1, .int (nI (b))), (2, .int (nI (0)))]) (st' := [.int (nI (4)), .int (nI (0)), .int (nI (b))]) (w2 := modW 0 S X K) rfl ?_
  refine ev_callS (Yc := mX7_isIn) [] dX7_bidder_3 tw_1036 kX7_isIn (m_X7_isIn_n b 0 4 (by omega) (by decide) (by decide)) rfl (st := []) rfl (by decide) rfl (by decide) (Nat.le_of_ble_eq_true rfl) (Nat.le_refl _) (Nat.le_refl _) (fun r w' h => by obtain ⟨-, rfl⟩ := h; exact Nat.le_of_ble_eq_true rfl) ?_
  rintro _ _ ⟨rfl, rfl⟩
  refine ev_eq (lv' := [(0, .ref 0), (1, .int (nI (b))), (2, .int (nI (0)))]) (st' := [.int (nI (b01 (0 ≤ b ∧ b ≤ 4)))]) (w' := modW 0 S X K) rfl rfl rfl ?_
  refine ev_ifne_b (tgt := 15) dX7_bidder_6 (by decide) (fun h6 => ?_) (fun h6 => (by exfalso; omega))
  refine ev_b bX7_bidder_15_17 (lv' := [(0, .ref 0), (1, .int (nI (b))), (2, .int (nI (0)))]) (st' := [.int (nI (b)), .ref 0]) (w2 := modW 0 S X K) rfl ?_
  refine ev_callM (Yc := mX7_ownNow) (st := []) dX7_bidder_17 tw_1155 kX7_ownNow (m_X7_ownNow S X K b hS hb) rfl rfl rfl rfl (by decide) (Nat.le_of_ble_eq_true rfl) (Nat.le_refl _) (Nat.le_refl _) (fun r w' h => by obtain ⟨-, rfl⟩ := h; exact mod_eq) ?_
  rintro _ _ ⟨rfl, rfl⟩
  refine ev_eq (lv' := [(0, .ref 0), (1, .int (nI (b))), (2, .int (nI (0)))]) (st' := [.int (nI (bgTo S.ow (1 <<< b) 5))]) (w' := modW 0 S ((X.rf, X.wo, X.ta, (owF S), X.sl, X.sh, X.lt, X.ty, X.pl, X.nu, X.od, X.tt, X.oo, X.on, X.wn, X.pd, X.li, X.rr, X.rn, X.dr) : ModN) K) rfl rfl rfl ?_
  refine ev_b bX7_bidder_20_22 (lv' := [(3, .int (nI (bgTo S.ow (1 <<< b) 5))), (0, .ref 0), (1, .int (nI (b))), (2, .int (nI (0)))]) (st' := [.int (nI (0))]) (w2 := modW 0 S ((X.rf, X.wo, X.ta, (owF S), X.sl, X.sh, X.lt, X.ty, X.pl, X.nu, X.od, X.tt, X.oo, X.on, X.wn, X.pd, X.li, X.rr, X.rn, X.dr) : ModN) K) rfl ?_
  refine ev_tableIn (off := 34) (tgt := 56) dX7_bidder_22 (by decide) (by decide) (by decide) (by decide) ?_
  refine ev_b bX7_bidder_56_61 (lv' := [(3, .int (nI (bgTo S.ow (1 <<< b) 5))), (0, .ref 0), (1, .int (nI (b))), (2, .int (nI (0)))]) (st' := [.int (nI (b)), .ref 2]) (w2 := modW 0 S ((X.rf, X.wo, X.ta, (owF S), X.sl, X.sh, X.lt, X.ty, X.pl, X.nu, X.od, X.tt, X.oo, X.on, X.wn, X.pd, X.li, X.rr, X.rn, X.dr) : ModN) K) rfl ?_
  refine ev_iald_n (f := S.kd) dX7_bidder_61 rfl (by omega) (by decide) ?_
  exact ev_iret dX7_bidder_62 rfl mod_le (Nat.le_refl _) (Nat.le_refl _) ⟨rfl, _, rfl, hM, rfl, rfl, rfl, rfl, rfl⟩
theorem bX7_bidder_63_68 {l : Launch} {E : XE} : Snd l E mX7_bidder 63 68 (xs [x_aload 0, x_get 8 2, x_iload 1]) := Snd.cons (snd_aload_n (i := 0) dX7_bidder_63 rfl) (Snd.cons (snd_get (ci := 8) (k := 2) dX7_bidder_64 rfl inX7 (by decide) tw_916) (Snd.cons (snd_iload_n (i := 1) dX7_bidder_67 rfl) Snd.nil))
set_option maxHeartbeats 4000000 in
set_option maxRecDepth 100000 in
theorem q_bidder_w1 {l : Launch} {E : XE} (S : SaleN) (X : ModN) (K : Option (Nat → Nat)) (b : Nat) (hS : SaleOK S) (hM : MOK S X) (hb : b < 5) : MetE l E mX7_bidder (2) 0 0 [.ref 0, .int (nI (b)), .int (nI (1))] (modW 0 S X K) (MP S K (X.lt) (X.ty) (X.rr) (X.rn) (X.rf) (some (.int (nI (S.fg b))))) := by
  refine MetE.of (by decide +kernel) (Nat.le_of_ble_eq_true rfl) ?_
  have hca := hS.1
  have hpw := pow_ca hS
  have hac := ac_lt hS
  have hshl := shl_le hS
  have hol := bgS_lt hS (1 <<< b)
  refine ev_eq (lv' := [(0, .ref 0), (1, .int (nI (b))), (2, .int (nI (1)))]) (st' := []) (w' := modW 0 S X K) rfl rfl rfl ?_
  refine ev_b bX7_bidder_0_3 (lv' := [(0, .ref 0), (1, .int (nI (b))), (2, .int (nI (1)))]) (st' := [.int (nI (4)), .int (nI (0)), .int (nI (b))]) (w2 := modW 0 S X K) rfl ?_
  refine ev_callS (Yc := mX7_isIn) [] dX7_bidder_3 tw_1036 kX7_isIn (m_X7_isIn_n b 0 4 (by omega) (by decide) (by decide)) rfl (st := []) rfl (by decide) rfl (by decide) (Nat.le_of_ble_eq_true rfl) (Nat.le_refl _) (Nat.le_refl _) (fun r w' h => by obtain ⟨-, rfl⟩ := h; exact Nat.le_of_ble_eq_true rfl) ?_
  rintro _ _ ⟨rfl, rfl⟩
  refine ev_eq (lv' := [(0, .ref 0), (1, .int (nI (b))), (2, .int (nI (1)))]) (st' := [.int (nI (b01 (0 ≤ b ∧ b ≤ 4)))]) (w' := modW 0 S X K) rfl rfl rfl ?_
  refine ev_ifne_b (tgt := 15) dX7_bidder_6 (by decide) (fun h6 => ?_) (fun h6 => (by exfalso; omega))
  refine ev_b bX7_bidder_15_17 (lv' := [(0, .ref 0), (1, .int (nI (b))), (2, .int (nI (1)))]) (st' := [.int (nI (b)), .ref 0]) (w2 := modW 0 S X K) rfl ?_
  refine ev_callM (Yc := mX7_ownNow) (st := []) dX7_bidder_17 tw_1155 kX7_ownNow (m_X7_ownNow S X K b hS hb) rfl rfl rfl rfl (by decide) (Nat.le_of_ble_eq_true rfl) (Nat.le_refl _) (Nat.le_refl _) (fun r w' h => by obtain ⟨-, rfl⟩ := h; exact mod_eq) ?_
  rintro _ _ ⟨rfl, rfl⟩
  refine ev_eq (lv' := [(0, .ref 0), (1, .int (nI (b))), (2, .int (nI (1)))]) (st' := [.int (nI (bgTo S.ow (1 <<< b) 5))]) (w' := modW 0 S ((X.rf, X.wo, X.ta, (owF S), X.sl, X.sh, X.lt, X.ty, X.pl, X.nu, X.od, X.tt, X.oo, X.on, X.wn, X.pd, X.li, X.rr, X.rn, X.dr) : ModN) K) rfl rfl rfl ?_
  refine ev_b bX7_bidder_20_22 (lv' := [(3, .int (nI (bgTo S.ow (1 <<< b) 5))), (0, .ref 0), (1, .int (nI (b))), (2, .int (nI (1)))]) (st' := [.int (nI (1))]) (w2 := modW 0 S ((X.rf, X.wo, X.ta, (owF S), X.sl, X.sh, X.lt, X.ty, X.pl, X.nu, X.od, X.tt, X.oo, X.on, X.wn, X.pd, X.li, X.rr, X.rn, X.dr) : ModN) K) rfl ?_
  refine ev_tableIn (off := 41) (tgt := 63) dX7_bidder_22 (by decide) (by decide) (by decide) (by decide) ?_
  refine ev_b bX7_bidder_63_68 (lv' := [(3, .int (nI (bgTo S.ow (1 <<< b) 5))), (0, .ref 0), (1, .int (nI (b))), (2, .int (nI (1)))]) (st' := [.int (nI (b)), .ref 3]) (w2 := modW 0 S ((X.rf, X.wo, X.ta, (owF S), X.sl, X.sh, X.lt, X.ty, X.pl, X.nu, X.od, X.tt, X.oo, X.on, X.wn, X.pd, X.li, X.rr, X.rn, X.dr) : ModN) K) rfl ?_
  refine ev_iald_n (f := S.fg) dX7_bidder_68 rfl (by omega) (by decide) ?_
  exact ev_iret dX7_bidder_69 rfl mod_le (Nat.le_refl _) (Nat.le_refl _) ⟨rfl, _, rfl, hM, rfl, rfl, rfl, rfl, rfl⟩
theorem bX7_bidder_70_71 {l : Launch} {E : XE} : Snd l E mX7_bidder 70 71 (xs [x_iload 3]) := Snd.cons (snd_iload_n (i := 3) dX7_bidder_70 rfl) Snd.nil
set_option maxHeartbeats 4000000 in
set_option maxRecDepth 100000 in
theorem q_bidder_w2 {l : Launch} {E : XE} (S : SaleN) (X : ModN) (K : Option (Nat → Nat)) (b : Nat) (hS : SaleOK S) (hM : MOK S X) (hb : b < 5) : MetE l E mX7_bidder (2) 0 0 [.ref 0, .int (nI (b)), .int (nI (2))] (modW 0 S X K) (MP S K (X.lt) (X.ty) (X.rr) (X.rn) (X.rf) (some (.int (nI (bgTo S.ow (1 <<< b) 5))))) := by
  refine MetE.of (by decide +kernel) (Nat.le_of_ble_eq_true rfl) ?_
  have hca := hS.1
  have hpw := pow_ca hS
  have hac := ac_lt hS
  have hshl := shl_le hS
  have hol := bgS_lt hS (1 <<< b)
  refine ev_eq (lv' := [(0, .ref 0), (1, .int (nI (b))), (2, .int (nI (2)))]) (st' := []) (w' := modW 0 S X K) rfl rfl rfl ?_
  refine ev_b bX7_bidder_0_3 (lv' := [(0, .ref 0), (1, .int (nI (b))), (2, .int (nI (2)))]) (st' := [.int (nI (4)), .int (nI (0)), .int (nI (b))]) (w2 := modW 0 S X K) rfl ?_
  refine ev_callS (Yc := mX7_isIn) [] dX7_bidder_3 tw_1036 kX7_isIn (m_X7_isIn_n b 0 4 (by omega) (by decide) (by decide)) rfl (st := []) rfl (by decide) rfl (by decide) (Nat.le_of_ble_eq_true rfl) (Nat.le_refl _) (Nat.le_refl _) (fun r w' h => by obtain ⟨-, rfl⟩ := h; exact Nat.le_of_ble_eq_true rfl) ?_
  rintro _ _ ⟨rfl, rfl⟩
  refine ev_eq (lv' := [(0, .ref 0), (1, .int (nI (b))), (2, .int (nI (2)))]) (st' := [.int (nI (b01 (0 ≤ b ∧ b ≤ 4)))]) (w' := modW 0 S X K) rfl rfl rfl ?_
  refine ev_ifne_b (tgt := 15) dX7_bidder_6 (by decide) (fun h6 => ?_) (fun h6 => (by exfalso; omega))
  refine ev_b bX7_bidder_15_17 (lv' := [(0, .ref 0), (1, .int (nI (b))), (2, .int (nI (2)))]) (st' := [.int (nI (b)), .ref 0]) (w2 := modW 0 S X K) rfl ?_
  refine ev_callM (Yc := mX7_ownNow) (st := []) dX7_bidder_17 tw_1155 kX7_ownNow (m_X7_ownNow S X K b hS hb) rfl rfl rfl rfl (by decide) (Nat.le_of_ble_eq_true rfl) (Nat.le_refl _) (Nat.le_refl _) (fun r w' h => by obtain ⟨-, rfl⟩ := h; exact mod_eq) ?_
  rintro _ _ ⟨rfl, rfl⟩
  refine ev_eq (lv' := [(0, .ref 0), (1, .int (nI (b))), (2, .int (nI (2)))]) (st' := [.int (nI (bgTo S.ow (1 <<< b) 5))]) (w' := modW 0 S ((X.rf, X.wo, X.ta, (owF S), X.sl, X.sh, X.lt, X.ty, X.pl, X.nu, X.od, X.tt, X.oo, X.on, X.wn, X.pd, X.li, X.rr, X.rn, X.dr) : ModN) K) rfl rfl rfl ?_
  refine ev_b bX7_bidder_20_22 (lv' := [(3, .int (nI (bgTo S.ow (1 <<< b) 5))), (0, .ref 0), (1, .int (nI (b))), (2, .int (nI (2)))]) (st' := [.int (nI (2))]) (w2 := modW 0 S ((X.rf, X.wo, X.ta, (owF S), X.sl, X.sh, X.lt, X.ty, X.pl, X.nu, X.od, X.tt, X.oo, X.on, X.wn, X.pd, X.li, X.rr, X.rn, X.dr) : ModN) K) rfl ?_
  refine ev_tableIn (off := 48) (tgt := 70) dX7_bidder_22 (by decide) (by decide) (by decide) (by decide) ?_
  refine ev_b bX7_bidder_70_71 (lv' := [(3, .int (nI (bgTo S.ow (1 <<< b) 5))), (0, .ref 0), (1, .int (nI (b))), (2, .int (nI (2)))]) (st' := [.int (nI (bgTo S.ow (1 <<< b) 5))]) (w2 := modW 0 S ((X.rf, X.wo, X.ta, (owF S), X.sl, X.sh, X.lt, X.ty, X.pl, X.nu, X.od, X.tt, X.oo, X.on, X.wn, X.pd, X.li, X.rr, X.rn, X.dr) : ModN) K) rfl ?_
  exact ev_iret dX7_bidder_71 rfl mod_le (Nat.le_refl _) (Nat.le_refl _) ⟨rfl, _, rfl, hM, rfl, rfl, rfl, rfl, rfl⟩
theorem bX7_bidder_72_74 {l : Launch} {E : XE} : Snd l E mX7_bidder 72 74 (xs [x_aload 0, x_aload 0]) := Snd.cons (snd_aload_n (i := 0) dX7_bidder_72 rfl) (Snd.cons (snd_aload_n (i := 0) dX7_bidder_73 rfl) Snd.nil)
theorem bX7_bidder_77_78 {l : Launch} {E : XE} : Snd l E mX7_bidder 77 78 (xs [x_iload 3]) := Snd.cons (snd_iload_n (i := 3) dX7_bidder_77 rfl) Snd.nil
set_option maxHeartbeats 4000000 in
set_option maxRecDepth 100000 in
theorem q_bidder_w3 {l : Launch} {E : XE} (S : SaleN) (X : ModN) (K : Option (Nat → Nat)) (b : Nat) (hS : SaleOK S) (hM : MOK S X) (hb : b < 5) : MetE l E mX7_bidder (6) 0 0 [.ref 0, .int (nI (b)), .int (nI (3))] (modW 0 S X K) (MP S K (X.lt) (X.ty) (X.rr) (X.rn) (X.rf) (some (.int (zI (totZ (wonZ S) (1 <<< b) 5))))) := by
  refine MetE.of (by decide +kernel) (Nat.le_of_ble_eq_true rfl) ?_
  have hca := hS.1
  have hpw := pow_ca hS
  have hac := ac_lt hS
  have hshl := shl_le hS
  have hol := bgS_lt hS (1 <<< b)
  refine ev_eq (lv' := [(0, .ref 0), (1, .int (nI (b))), (2, .int (nI (3)))]) (st' := []) (w' := modW 0 S X K) rfl rfl rfl ?_
  refine ev_b bX7_bidder_0_3 (lv' := [(0, .ref 0), (1, .int (nI (b))), (2, .int (nI (3)))]) (st' := [.int (nI (4)), .int (nI (0)), .int (nI (b))]) (w2 := modW 0 S X K) rfl ?_
  refine ev_callS (Yc := mX7_isIn) [] dX7_bidder_3 tw_1036 kX7_isIn (m_X7_isIn_n b 0 4 (by omega) (by decide) (by decide)) rfl (st := []) rfl (by decide) rfl (by decide) (Nat.le_of_ble_eq_true rfl) (Nat.le_refl _) (Nat.le_refl _) (fun r w' h => by obtain ⟨-, rfl⟩ := h; exact Nat.le_of_ble_eq_true rfl) ?_
  rintro _ _ ⟨rfl, rfl⟩
  refine ev_eq (lv' := [(0, .ref 0), (1, .int (nI (b))), (2, .int (nI (3)))]) (st' := [.int (nI (b01 (0 ≤ b ∧ b ≤ 4)))]) (w' := modW 0 S X K) rfl rfl rfl ?_
  refine ev_ifne_b (tgt := 15) dX7_bidder_6 (by decide) (fun h6 => ?_) (fun h6 => (by exfalso; omega))
  refine ev_b bX7_bidder_15_17 (lv' := [(0, .ref 0), (1, .int (nI (b))), (2, .int (nI (3)))]) (st' := [.int (nI (b)), .ref 0]) (w2 := modW 0 S X K) rfl ?_
  refine ev_callM (Yc := mX7_ownNow) (st := []) dX7_bidder_17 tw_1155 kX7_ownNow (m_X7_ownNow S X K b hS hb) rfl rfl rfl rfl (by decide) (Nat.le_of_ble_eq_true rfl) (Nat.le_refl _) (Nat.le_refl _) (fun r w' h => by obtain ⟨-, rfl⟩ := h; exact mod_eq) ?_
  rintro _ _ ⟨rfl, rfl⟩
  refine ev_eq (lv' := [(0, .ref 0), (1, .int (nI (b))), (2, .int (nI (3)))]) (st' := [.int (nI (bgTo S.ow (1 <<< b) 5))]) (w' := modW 0 S ((X.rf, X.wo, X.ta, (owF S), X.sl, X.sh, X.lt, X.ty, X.pl, X.nu, X.od, X.tt, X.oo, X.on, X.wn, X.pd, X.li, X.rr, X.rn, X.dr) : ModN) K) rfl rfl rfl ?_
  refine ev_b bX7_bidder_20_22 (lv' := [(3, .int (nI (bgTo S.ow (1 <<< b) 5))), (0, .ref 0), (1, .int (nI (b))), (2, .int (nI (3)))]) (st' := [.int (nI (3))]) (w2 := modW 0 S ((X.rf, X.wo, X.ta, (owF S), X.sl, X.sh, X.lt, X.ty, X.pl, X.nu, X.od, X.tt, X.oo, X.on, X.wn, X.pd, X.li, X.rr, X.rn, X.dr) : ModN) K) rfl ?_
  refine ev_tableIn (off := 50) (tgt := 72) dX7_bidder_22 (by decide) (by decide) (by decide) (by decide) ?_
  refine ev_b bX7_bidder_72_74 (lv' := [(3, .int (nI (bgTo S.ow (1 <<< b) 5))), (0, .ref 0), (1, .int (nI (b))), (2, .int (nI (3)))]) (st' := [.ref 0, .ref 0]) (w2 := modW 0 S ((X.rf, X.wo, X.ta, (owF S), X.sl, X.sh, X.lt, X.ty, X.pl, X.nu, X.od, X.tt, X.oo, X.on, X.wn, X.pd, X.li, X.rr, X.rn, X.dr) : ModN) K) rfl ?_
  refine ev_callM (Yc := mX7_winnersNow) (st := [.ref 0]) dX7_bidder_74 tw_1104 kX7_winnersNow (m_X7_winnersNow_g S S.kd S.fg ((X.rf, X.wo, X.ta, (owF S), X.sl, X.sh, X.lt, X.ty, X.pl, X.nu, X.od, X.tt, X.oo, X.on, X.wn, X.pd, X.li, X.rr, X.rn, X.dr) : ModN) K hS (kf_self hM.1) hM.2) rfl rfl rfl rfl (by decide) (Nat.le_of_ble_eq_true rfl) (Nat.le_refl _) (Nat.le_refl _) (fun r w' h => by obtain ⟨-, wo, ta, ow, rfl, -⟩ := h; exact mod_eq) ?_
  rintro _ _ ⟨rfl, wo, ta, ow, rfl, hT⟩
  refine ev_eq (lv' := [(3, .int (nI (bgTo S.ow (1 <<< b) 5))), (0, .ref 0), (1, .int (nI (b))), (2, .int (nI (3)))]) (st' := [.int (nI (winB S 1023)), .ref 0]) (w' := modW 0 S ((X.rf, wo, ta, ow, 0, X.sh, X.lt, X.ty, X.pl, X.nu, X.od, X.tt, X.oo, X.on, X.wn, X.pd, X.li, X.rr, X.rn, X.dr) : ModN) K) rfl rfl rfl ?_
  have hwb := winB_lt hS 1023
  refine ev_b bX7_bidder_77_78 (lv' := [(3, .int (nI (bgTo S.ow (1 <<< b) 5))), (0, .ref 0), (1, .int (nI (b))), (2, .int (nI (3)))]) (st' := [.int (nI (bgTo S.ow (1 <<< b) 5)), .int (nI (winB S 1023)), .ref 0]) (w2 := modW 0 S ((X.rf, wo, ta, ow, 0, X.sh, X.lt, X.ty, X.pl, X.nu, X.od, X.tt, X.oo, X.on, X.wn, X.pd, X.li, X.rr, X.rn, X.dr) : ModN) K) rfl ?_
  refine ev_iand_n dX7_bidder_78 ?_
  refine ev_callM (Yc := mX7_pricesOf) (st := []) dX7_bidder_79 tw_1159 kX7_pricesOf (m_X7_pricesOf S S.kd S.fg ((X.rf, wo, ta, ow, 0, X.sh, X.lt, X.ty, X.pl, X.nu, X.od, X.tt, X.oo, X.on, X.wn, X.pd, X.li, X.rr, X.rn, X.dr) : ModN) K (winB S 1023 &&& (bgTo S.ow (1 <<< b) 5)) hS (Nat.lt_of_le_of_lt Nat.and_le_left (by omega))) rfl rfl rfl rfl (by decide) (Nat.le_of_ble_eq_true rfl) (Nat.le_refl _) (Nat.le_refl _) (fun r w' h => by obtain ⟨-, rfl⟩ := h; exact mod_eq) ?_
  rintro _ _ ⟨rfl, rfl⟩
  refine ev_eq (lv' := [(3, .int (nI (bgTo S.ow (1 <<< b) 5))), (0, .ref 0), (1, .int (nI (b))), (2, .int (nI (3)))]) (st' := [.int (nI (prTo S.pr (winB S 1023 &&& (bgTo S.ow (1 <<< b) 5)) S.ca))]) (w' := modW 0 S ((X.rf, wo, ta, ow, 0, X.sh, X.lt, X.ty, X.pl, X.nu, X.od, X.tt, X.oo, X.on, X.wn, X.pd, X.li, X.rr, X.rn, X.dr) : ModN) K) rfl rfl rfl ?_
  refine ev_top (y := (zI (totZ (wonZ S) (1 <<< b) 5))) ((zI_nat _).symm.trans (congrArg zI (show ((prTo S.pr (winB S 1023 &&& (bgTo S.ow (1 <<< b) 5)) S.ca : Nat) : Int) = totZ (wonZ S) (1 <<< b) 5 from by rw [totZ_one hb]; rfl))) ?_
  exact ev_iret dX7_bidder_82 rfl mod_le (Nat.le_refl _) (Nat.le_refl _) ⟨rfl, _, rfl, mok_fresh hM.1 rfl hT, rfl, rfl, rfl, rfl, rfl⟩
theorem bX7_bidder_83_85 {l : Launch} {E : XE} : Snd l E mX7_bidder 83 85 (xs [x_aload 0, x_iload 3]) := Snd.cons (snd_aload_n (i := 0) dX7_bidder_83 rfl) (Snd.cons (snd_iload_n (i := 3) dX7_bidder_84 rfl) Snd.nil)
set_option maxHeartbeats 4000000 in
set_option maxRecDepth 100000 in
theorem q_bidder_w4 {l : Launch} {E : XE} (S : SaleN) (X : ModN) (K : Option (Nat → Nat)) (b : Nat) (hS : SaleOK S) (hM : MOK S X) (hb : b < 5) : MetE l E mX7_bidder (7) 0 0 [.ref 0, .int (nI (b)), .int (nI (4))] (modW 0 S X K) (MP S K (X.lt) (X.ty) (X.rr) (X.rn) (X.rf) (some (.int (zI (harmZ S (1 <<< b)))))) := by
  refine MetE.of (by decide +kernel) (Nat.le_of_ble_eq_true rfl) ?_
  have hca := hS.1
  have hpw := pow_ca hS
  have hac := ac_lt hS
  have hshl := shl_le hS
  have hol := bgS_lt hS (1 <<< b)
  refine ev_eq (lv' := [(0, .ref 0), (1, .int (nI (b))), (2, .int (nI (4)))]) (st' := []) (w' := modW 0 S X K) rfl rfl rfl ?_
  refine ev_b bX7_bidder_0_3 (lv' := [(0, .ref 0), (1, .int (nI (b))), (2, .int (nI (4)))]) (st' := [.int (nI (4)), .int (nI (0)), .int (nI (b))]) (w2 := modW 0 S X K) rfl ?_
  refine ev_callS (Yc := mX7_isIn) [] dX7_bidder_3 tw_1036 kX7_isIn (m_X7_isIn_n b 0 4 (by omega) (by decide) (by decide)) rfl (st := []) rfl (by decide) rfl (by decide) (Nat.le_of_ble_eq_true rfl) (Nat.le_refl _) (Nat.le_refl _) (fun r w' h => by obtain ⟨-, rfl⟩ := h; exact Nat.le_of_ble_eq_true rfl) ?_
  rintro _ _ ⟨rfl, rfl⟩
  refine ev_eq (lv' := [(0, .ref 0), (1, .int (nI (b))), (2, .int (nI (4)))]) (st' := [.int (nI (b01 (0 ≤ b ∧ b ≤ 4)))]) (w' := modW 0 S X K) rfl rfl rfl ?_
  refine ev_ifne_b (tgt := 15) dX7_bidder_6 (by decide) (fun h6 => ?_) (fun h6 => (by exfalso; omega))
  refine ev_b bX7_bidder_15_17 (lv' := [(0, .ref 0), (1, .int (nI (b))), (2, .int (nI (4)))]) (st' := [.int (nI (b)), .ref 0]) (w2 := modW 0 S X K) rfl ?_
  refine ev_callM (Yc := mX7_ownNow) (st := []) dX7_bidder_17 tw_1155 kX7_ownNow (m_X7_ownNow S X K b hS hb) rfl rfl rfl rfl (by decide) (Nat.le_of_ble_eq_true rfl) (Nat.le_refl _) (Nat.le_refl _) (fun r w' h => by obtain ⟨-, rfl⟩ := h; exact mod_eq) ?_
  rintro _ _ ⟨rfl, rfl⟩
  refine ev_eq (lv' := [(0, .ref 0), (1, .int (nI (b))), (2, .int (nI (4)))]) (st' := [.int (nI (bgTo S.ow (1 <<< b) 5))]) (w' := modW 0 S ((X.rf, X.wo, X.ta, (owF S), X.sl, X.sh, X.lt, X.ty, X.pl, X.nu, X.od, X.tt, X.oo, X.on, X.wn, X.pd, X.li, X.rr, X.rn, X.dr) : ModN) K) rfl rfl rfl ?_
  refine ev_b bX7_bidder_20_22 (lv' := [(3, .int (nI (bgTo S.ow (1 <<< b) 5))), (0, .ref 0), (1, .int (nI (b))), (2, .int (nI (4)))]) (st' := [.int (nI (4))]) (w2 := modW 0 S ((X.rf, X.wo, X.ta, (owF S), X.sl, X.sh, X.lt, X.ty, X.pl, X.nu, X.od, X.tt, X.oo, X.on, X.wn, X.pd, X.li, X.rr, X.rn, X.dr) : ModN) K) rfl ?_
  refine ev_tableIn (off := 61) (tgt := 83) dX7_bidder_22 (by decide) (by decide) (by decide) (by decide) ?_
  refine ev_b bX7_bidder_83_85 (lv' := [(3, .int (nI (bgTo S.ow (1 <<< b) 5))), (0, .ref 0), (1, .int (nI (b))), (2, .int (nI (4)))]) (st' := [.int (nI (bgTo S.ow (1 <<< b) 5)), .ref 0]) (w2 := modW 0 S ((X.rf, X.wo, X.ta, (owF S), X.sl, X.sh, X.lt, X.ty, X.pl, X.nu, X.od, X.tt, X.oo, X.on, X.wn, X.pd, X.li, X.rr, X.rn, X.dr) : ModN) K) rfl ?_
  refine ev_callM (Yc := mX7_harmOf) (st := []) dX7_bidder_85 tw_1163 kX7_harmOf (m_X7_harmOf_g S S.kd S.fg ((X.rf, X.wo, X.ta, (owF S), X.sl, X.sh, X.lt, X.ty, X.pl, X.nu, X.od, X.tt, X.oo, X.on, X.wn, X.pd, X.li, X.rr, X.rn, X.dr) : ModN) K (bgTo S.ow (1 <<< b) 5) hS (kf_self hM.1) hM.2 (by omega)) rfl rfl rfl rfl (by decide) (Nat.le_of_ble_eq_true rfl) (Nat.le_refl _) (Nat.le_refl _) (fun r w' h => by obtain ⟨-, wo, ta, ow, rfl, -⟩ := h; exact mod_eq) ?_
  rintro _ _ ⟨rfl, wo, ta, ow, rfl, hT⟩
  refine ev_eq (lv' := [(3, .int (nI (bgTo S.ow (1 <<< b) 5))), (0, .ref 0), (1, .int (nI (b))), (2, .int (nI (4)))]) (st' := [.int (zI (harmM S (bgTo S.ow (1 <<< b) 5)))]) (w' := modW 0 S ((X.rf, wo, ta, ow, 0, X.sh, X.lt, X.ty, X.pl, X.nu, X.od, X.tt, X.oo, X.on, X.wn, X.pd, X.li, X.rr, X.rn, X.dr) : ModN) K) rfl rfl rfl ?_
  refine ev_top (y := (zI (harmZ S (1 <<< b)))) (congrArg zI (show harmM S (bgTo S.ow (1 <<< b) 5) = harmZ S (1 <<< b) from by rw [← ow_one hS hb]; exact harm_one hS hb)) ?_
  exact ev_iret dX7_bidder_88 rfl mod_le (Nat.le_refl _) (Nat.le_refl _) ⟨rfl, _, rfl, mok_fresh hM.1 rfl hT, rfl, rfl, rfl, rfl, rfl⟩
theorem bX7_may_0_1 {l : Launch} {E : XE} : Snd l E mX7_may 0 1 (xs [x_iload 1]) := Snd.cons (snd_iload_n (i := 1) dX7_may_0 rfl) Snd.nil
theorem bX7_may_4_7 {l : Launch} {E : XE} : Snd l E mX7_may 4 7 (xs [x_aload 0, x_push (.int (-4))]) := Snd.cons (snd_aload_n (i := 0) dX7_may_4 rfl) (Snd.cons (snd_bipush (v := -4) dX7_may_5 (by decide)) Snd.nil)
set_option maxHeartbeats 4000000 in
set_option maxRecDepth 100000 in
theorem q_may_4 {l : Launch} {E : XE} (S : SaleN) (X : ModN) (K : Option (Nat → Nat)) (z : Int) (hS : SaleOK S) (hM : MOK S X) (rz : -2147483648 ≤ z ∧ z < 2147483648) (h : z < 0) : MetE l E mX7_may (1) 0 0 [.ref 0, .int (zI (z))] (modW 0 S X K) (MP S K (X.lt) (X.ty) (X.rr) (X.rn) ((up X.rf 4 (X.rf 4 + 1))) (some (.int (-4)))) := by
  refine MetE.of (by decide +kernel) (Nat.le_of_ble_eq_true rfl) ?_
  have hca := hS.1
  have hpw := pow_ca hS
  have hac := ac_lt hS
  have hshl := shl_le hS
  
  refine ev_eq (lv' := [(0, .ref 0), (1, .int (zI (z)))]) (st' := []) (w' := modW 0 S X K) rfl rfl rfl ?_
  refine ev_b bX7_may_0_1 (lv' := [(0, .ref 0), (1, .int (zI (z)))]) (st' := [.int (zI (z))]) (w2 := modW 0 S X K) rfl ?_
  refine ev_if_ge_z (tgt := 11) (by constructor <;> omega) dX7_may_1 (by decide) (fun h1 => (by exfalso; omega)) (fun h1 => ?_)
  refine ev_b bX7_may_4_7 (lv' := [(0, .ref 0), (1, .int (zI (z)))]) (st' := [.int (-4), .ref 0]) (w2 := modW 0 S X K) rfl ?_
  refine ev_callM (Yc := mX7_refuses) (st := []) dX7_may_7 tw_1012 kX7_refuses (m_X7_refuses_4 S X K) rfl rfl rfl rfl (by decide) (Nat.le_of_ble_eq_true rfl) (Nat.le_refl _) (Nat.le_refl _) (fun r w' h => by obtain ⟨-, rfl⟩ := h; exact mod_eq) ?_
  rintro _ _ ⟨rfl, rfl⟩
  refine ev_eq (lv' := [(0, .ref 0), (1, .int (zI (z)))]) (st' := [.int (-4)]) (w' := modW 0 S (((up X.rf 4 (X.rf 4 + 1)), X.wo, X.ta, X.ow, X.sl, X.sh, X.lt, X.ty, X.pl, X.nu, X.od, X.tt, X.oo, X.on, X.wn, X.pd, X.li, X.rr, X.rn, X.dr) : ModN) K) rfl rfl rfl ?_
  exact ev_iret dX7_may_10 rfl mod_le (Nat.le_refl _) (Nat.le_refl _) ⟨rfl, _, rfl, hM, rfl, rfl, rfl, rfl, rfl⟩
theorem bX7_may_11_17 {l : Launch} {E : XE} : Snd l E mX7_may 11 17 (xs [x_iload 1, x_push (.int (nI 1)), x_aload 0, x_get 8 6]) := Snd.cons (snd_iload_n (i := 1) dX7_may_11 rfl) (Snd.cons (snd_iconst (v := nI 1) dX7_may_12 (by decide)) (Snd.cons (snd_aload_n (i := 0) dX7_may_13 rfl) (Snd.cons (snd_get (ci := 8) (k := 6) dX7_may_14 rfl inX7 (by decide) tw_920) Snd.nil)))
theorem bX7_may_21_24 {l : Launch} {E : XE} : Snd l E mX7_may 21 24 (xs [x_aload 0, x_push (.int (-6))]) := Snd.cons (snd_aload_n (i := 0) dX7_may_21 rfl) (Snd.cons (snd_bipush (v := -6) dX7_may_22 (by decide)) Snd.nil)
set_option maxHeartbeats 4000000 in
set_option maxRecDepth 100000 in
theorem q_may_6 {l : Launch} {E : XE} (S : SaleN) (X : ModN) (K : Option (Nat → Nat)) (x : Nat) (hS : SaleOK S) (hM : MOK S X) (hx : x < 2147483648) (h : 1 <<< S.ca ≤ x) : MetE l E mX7_may (1) 0 0 [.ref 0, .int (nI (x))] (modW 0 S X K) (MP S K (X.lt) (X.ty) (X.rr) (X.rn) ((up X.rf 6 (X.rf 6 + 1))) (some (.int (-6)))) := by
  refine MetE.of (by decide +kernel) (Nat.le_of_ble_eq_true rfl) ?_
  have hca := hS.1
  have hpw := pow_ca hS
  have hac := ac_lt hS
  have hshl := shl_le hS
  
  refine ev_eq (lv' := [(0, .ref 0), (1, .int (nI (x)))]) (st' := []) (w' := modW 0 S X K) rfl rfl rfl ?_
  refine ev_b bX7_may_0_1 (lv' := [(0, .ref 0), (1, .int (nI (x)))]) (st' := [.int (nI (x))]) (w2 := modW 0 S X K) rfl ?_
  refine ev_if_ge_n (tgt := 11) (by omega) dX7_may_1 (by decide) (fun h1 => ?_) (fun h1 => (by exfalso; omega))
  refine ev_b bX7_may_11_17 (lv' := [(0, .ref 0), (1, .int (nI (x)))]) (st' := [.int (nI (S.ca)), .int (nI (1)), .int (nI (x))]) (w2 := modW 0 S X K) rfl ?_
  refine ev_ishl_n (by omega) dX7_may_17 ?_
  refine ev_icmp_lt_n (tgt := 28) (by omega) (by omega) dX7_may_18 (by decide) (fun h18 => (by exfalso; omega)) (fun h18 => ?_)
  refine ev_b bX7_may_21_24 (lv' := [(0, .ref 0), (1, .int (nI (x)))]) (st' := [.int (-6), .ref 0]) (w2 := modW 0 S X K) rfl ?_
  refine ev_callM (Yc := mX7_refuses) (st := []) dX7_may_24 tw_1012 kX7_refuses (m_X7_refuses_6 S X K) rfl rfl rfl rfl (by decide) (Nat.le_of_ble_eq_true rfl) (Nat.le_refl _) (Nat.le_refl _) (fun r w' h => by obtain ⟨-, rfl⟩ := h; exact mod_eq) ?_
  rintro _ _ ⟨rfl, rfl⟩
  refine ev_eq (lv' := [(0, .ref 0), (1, .int (nI (x)))]) (st' := [.int (-6)]) (w' := modW 0 S (((up X.rf 6 (X.rf 6 + 1)), X.wo, X.ta, X.ow, X.sl, X.sh, X.lt, X.ty, X.pl, X.nu, X.od, X.tt, X.oo, X.on, X.wn, X.pd, X.li, X.rr, X.rn, X.dr) : ModN) K) rfl rfl rfl ?_
  exact ev_iret dX7_may_27 rfl mod_le (Nat.le_refl _) (Nat.le_refl _) ⟨rfl, _, rfl, hM, rfl, rfl, rfl, rfl, rfl⟩
theorem bX7_may_28_29 {l : Launch} {E : XE} : Snd l E mX7_may 28 29 (xs [x_aload 0]) := Snd.cons (snd_aload_n (i := 0) dX7_may_28 rfl) Snd.nil
theorem bX7_may_32_39 {l : Launch} {E : XE} : Snd l E mX7_may 32 39 (xs [x_iload 1, x_aload 0, x_get 8 7, x_push (.int (-1)), x_i2 (fun x y => x ^^^ y)]) := Snd.cons (snd_iload_n (i := 1) dX7_may_32 rfl) (Snd.cons (snd_aload_n (i := 0) dX7_may_33 rfl) (Snd.cons (snd_get (ci := 8) (k := 7) dX7_may_34 rfl inX7 (by decide) tw_921) (Snd.cons (snd_iconst (v := -1) dX7_may_37 (by decide)) (Snd.cons (snd_ixor dX7_may_38) Snd.nil))))
theorem bX7_may_56_57 {l : Launch} {E : XE} : Snd l E mX7_may 56 57 (xs [x_push (.int (nI 0))]) := Snd.cons (snd_iconst (v := nI 0) dX7_may_56 (by decide)) Snd.nil
theorem bX7_may_43_48 {l : Launch} {E : XE} : Snd l E mX7_may 43 48 (xs [x_aload 0, x_get 8 9, x_iload 1]) := Snd.cons (snd_aload_n (i := 0) dX7_may_43 rfl) (Snd.cons (snd_get (ci := 8) (k := 9) dX7_may_44 rfl inX7 (by decide) tw_923) (Snd.cons (snd_iload_n (i := 1) dX7_may_47 rfl) Snd.nil))
theorem bX7_may_52_57 {l : Launch} {E : XE} : Snd l E mX7_may 52 57 (xs [x_push (.int (nI 1)), x_id]) := Snd.cons (snd_iconst (v := nI 1) dX7_may_52 (by decide)) (Snd.cons (snd_goto (tgt := 57) dX7_may_53 (by decide)) Snd.nil)
set_option maxHeartbeats 4000000 in
set_option maxRecDepth 100000 in
theorem q_may_ok {l : Launch} {E : XE} (S : SaleN) (X : ModN) (K : Option (Nat → Nat)) (x : Nat) (hS : SaleOK S) (hM : MOK S X) (hx : x < 1 <<< S.ca) : MetE l E mX7_may (4) 0 0 [.ref 0, .int (nI (x))] (modW 0 S X K) (MP S K (X.lt) (X.ty) (X.rr) (X.rn) (X.rf) (some (.int (nI (b01 (x ∈ packsN S S.ca ∧ allS S x)))))) := by
  refine MetE.of (by decide +kernel) (Nat.le_of_ble_eq_true rfl) ?_
  have hca := hS.1
  have hpw := pow_ca hS
  have hac := ac_lt hS
  have hshl := shl_le hS
  
  refine ev_eq (lv' := [(0, .ref 0), (1, .int (nI (x)))]) (st' := []) (w' := modW 0 S X K) rfl rfl rfl ?_
  refine ev_b bX7_may_0_1 (lv' := [(0, .ref 0), (1, .int (nI (x)))]) (st' := [.int (nI (x))]) (w2 := modW 0 S X K) rfl ?_
  refine ev_if_ge_n (tgt := 11) (by omega) dX7_may_1 (by decide) (fun h1 => ?_) (fun h1 => (by exfalso; omega))
  refine ev_b bX7_may_11_17 (lv' := [(0, .ref 0), (1, .int (nI (x)))]) (st' := [.int (nI (S.ca)), .int (nI (1)), .int (nI (x))]) (w2 := modW 0 S X K) rfl ?_
  refine ev_ishl_n (by omega) dX7_may_17 ?_
  refine ev_icmp_lt_n (tgt := 28) (by omega) (by omega) dX7_may_18 (by decide) (fun h18 => ?_) (fun h18 => (by exfalso; omega))
  refine ev_b bX7_may_28_29 (lv' := [(0, .ref 0), (1, .int (nI (x)))]) (st' := [.ref 0]) (w2 := modW 0 S X K) rfl ?_
  refine ev_callM (Yc := mX7_table) (st := []) dX7_may_29 tw_1112 kX7_table (m_X7_table_g S S.kd S.fg X K hS (kf_self hM.1) hM.2) rfl rfl rfl rfl (by decide) (Nat.le_of_ble_eq_true rfl) (Nat.le_refl _) (Nat.le_refl _) (fun r w' h => by obtain ⟨-, wo, ta, ow, rfl, -⟩ := h; exact mod_eq) ?_
  rintro _ _ ⟨rfl, wo, ta, ow, rfl, hT⟩
  refine ev_eq (lv' := [(0, .ref 0), (1, .int (nI (x)))]) (st' := []) (w' := modW 0 S ((X.rf, wo, ta, ow, 0, X.sh, X.lt, X.ty, X.pl, X.nu, X.od, X.tt, X.oo, X.on, X.wn, X.pd, X.li, X.rr, X.rn, X.dr) : ModN) K) rfl rfl rfl ?_
  refine ev_b bX7_may_32_39 (lv' := [(0, .ref 0), (1, .int (nI (x)))]) (st' := [.int (nI (S.ac) ^^^ (-1)), .int (nI (x))]) (w2 := modW 0 S ((X.rf, wo, ta, ow, 0, X.sh, X.lt, X.ty, X.pl, X.nu, X.od, X.tt, X.oo, X.on, X.wn, X.pd, X.li, X.rr, X.rn, X.dr) : ModN) K) rfl ?_
  refine ev_iandn_n dX7_may_39 ?_
  refine ev_if_ne_n (tgt := 56) (by exact Nat.lt_of_le_of_lt (xor_and_le _ _) (by omega)) dX7_may_40 (by decide) (fun h40 => ?_) (fun h40 => ?_)
  · skip
    refine ev_b bX7_may_56_57 (lv' := [(0, .ref 0), (1, .int (nI (x)))]) (st' := [.int (nI (0))]) (w2 := modW 0 S ((X.rf, wo, ta, ow, 0, X.sh, X.lt, X.ty, X.pl, X.nu, X.od, X.tt, X.oo, X.on, X.wn, X.pd, X.li, X.rr, X.rn, X.dr) : ModN) K) rfl ?_
    exact ev_iret dX7_may_57 rfl mod_le (Nat.le_refl _) (Nat.le_refl _) ⟨by first | exact congrArg (fun n => some (Value.int (nI n))) (b01_t (hxo.mpr (by omega))).symm | exact congrArg (fun n => some (Value.int (nI n))) (b01_f (fun z => h49 (by rw [hxw]; exact hxo.mp z))).symm | exact congrArg (fun n => some (Value.int (nI n))) (b01_f (fun z => absurd (hxo.mp z) (by omega))).symm | exact congrArg (fun n => some (Value.int (nI n))) (b01_f (fun (z : x ∈ packsN S S.ca ∧ allS S x) => h40 (out_sub (F := S) (m := x) z))).symm, _, rfl, mok_fresh hM.1 rfl hT, rfl, rfl, rfl, rfl, rfl⟩
  · skip
    have hxw := (hT x hx).1
    have hxb := wt_bnd hS x
    have hxo : (x ∈ packsN S S.ca ∧ allS S x) ↔ 0 ≤ wtZ S x := out_iff hS h40
    refine ev_b bX7_may_43_48 (lv' := [(0, .ref 0), (1, .int (nI (x)))]) (st' := [.int (nI (x)), .ref 8]) (w2 := modW 0 S ((X.rf, wo, ta, ow, 0, X.sh, X.lt, X.ty, X.pl, X.nu, X.od, X.tt, X.oo, X.on, X.wn, X.pd, X.li, X.rr, X.rn, X.dr) : ModN) K) rfl ?_
    refine ev_iald_z (f := wo) dX7_may_48 rfl (by omega) (by decide) ?_
    refine ev_if_lt_z (tgt := 56) (by constructor <;> omega) dX7_may_49 (by decide) (fun h49 => ?_) (fun h49 => ?_)
    · skip
      refine ev_b bX7_may_56_57 (lv' := [(0, .ref 0), (1, .int (nI (x)))]) (st' := [.int (nI (0))]) (w2 := modW 0 S ((X.rf, wo, ta, ow, 0, X.sh, X.lt, X.ty, X.pl, X.nu, X.od, X.tt, X.oo, X.on, X.wn, X.pd, X.li, X.rr, X.rn, X.dr) : ModN) K) rfl ?_
      exact ev_iret dX7_may_57 rfl mod_le (Nat.le_refl _) (Nat.le_refl _) ⟨by first | exact congrArg (fun n => some (Value.int (nI n))) (b01_t (hxo.mpr (by omega))).symm | exact congrArg (fun n => some (Value.int (nI n))) (b01_f (fun z => h49 (by rw [hxw]; exact hxo.mp z))).symm | exact congrArg (fun n => some (Value.int (nI n))) (b01_f (fun z => absurd (hxo.mp z) (by omega))).symm | exact congrArg (fun n => some (Value.int (nI n))) (b01_f (fun (z : x ∈ packsN S S.ca ∧ allS S x) => h40 (out_sub (F := S) (m := x) z))).symm, _, rfl, mok_fresh hM.1 rfl hT, rfl, rfl, rfl, rfl, rfl⟩
    · skip
      refine ev_b bX7_may_52_57 (lv' := [(0, .ref 0), (1, .int (nI (x)))]) (st' := [.int (nI (1))]) (w2 := modW 0 S ((X.rf, wo, ta, ow, 0, X.sh, X.lt, X.ty, X.pl, X.nu, X.od, X.tt, X.oo, X.on, X.wn, X.pd, X.li, X.rr, X.rn, X.dr) : ModN) K) rfl ?_
      exact ev_iret dX7_may_57 rfl mod_le (Nat.le_refl _) (Nat.le_refl _) ⟨by first | exact congrArg (fun n => some (Value.int (nI n))) (b01_t (hxo.mpr (by omega))).symm | exact congrArg (fun n => some (Value.int (nI n))) (b01_f (fun z => h49 (by rw [hxw]; exact hxo.mp z))).symm | exact congrArg (fun n => some (Value.int (nI n))) (b01_f (fun z => absurd (hxo.mp z) (by omega))).symm | exact congrArg (fun n => some (Value.int (nI n))) (b01_f (fun (z : x ∈ packsN S S.ca ∧ allS S x) => h40 (out_sub (F := S) (m := x) z))).symm, _, rfl, mok_fresh hM.1 rfl hT, rfl, rfl, rfl, rfl, rfl⟩
theorem bX7_winners_0_1 {l : Launch} {E : XE} : Snd l E mX7_winners 0 1 (xs [x_aload 0]) := Snd.cons (snd_aload_n (i := 0) dX7_winners_0 rfl) Snd.nil
theorem bX7_winners_4_6 {l : Launch} {E : XE} : Snd l E mX7_winners 4 6 (xs [x_istore 2, x_iload 1]) := Snd.cons (snd_istore_n (i := 2) dX7_winners_4 rfl (by decide)) (Snd.cons (snd_iload_n (i := 1) dX7_winners_5 rfl) Snd.nil)
theorem bX7_winners_57_60 {l : Launch} {E : XE} : Snd l E mX7_winners 57 60 (xs [x_aload 0, x_push (.int (-2))]) := Snd.cons (snd_aload_n (i := 0) dX7_winners_57 rfl) (Snd.cons (snd_bipush (v := -2) dX7_winners_58 (by decide)) Snd.nil)
set_option maxHeartbeats 4000000 in
set_option maxRecDepth 100000 in
theorem q_winners_2 {l : Launch} {E : XE} (S : SaleN) (X : ModN) (K : Option (Nat → Nat)) (z : Int) (hS : SaleOK S) (hM : MOK S X) (rz : -2147483648 ≤ z ∧ z < 2147483648) (h : z < 0 ∨ 3 < z) : MetE l E mX7_winners (6) 0 0 [.ref 0, .int (zI (z))] (modW 0 S X K) (MP S K (X.lt) (X.ty) (X.rr) (X.rn) ((up X.rf 2 (X.rf 2 + 1))) (some (.int (-2)))) := by
  refine MetE.of (by decide +kernel) (Nat.le_of_ble_eq_true rfl) ?_
  have hca := hS.1
  have hpw := pow_ca hS
  have hac := ac_lt hS
  have hshl := shl_le hS
  
  refine ev_eq (lv' := [(0, .ref 0), (1, .int (zI (z)))]) (st' := []) (w' := modW 0 S X K) rfl rfl rfl ?_
  refine ev_b bX7_winners_0_1 (lv' := [(0, .ref 0), (1, .int (zI (z)))]) (st' := [.ref 0]) (w2 := modW 0 S X K) rfl ?_
  refine ev_callM (Yc := mX7_winnersNow) (st := []) dX7_winners_1 tw_1104 kX7_winnersNow (m_X7_winnersNow_g S S.kd S.fg X K hS (kf_self hM.1) hM.2) rfl rfl rfl rfl (by decide) (Nat.le_of_ble_eq_true rfl) (Nat.le_refl _) (Nat.le_refl _) (fun r w' h => by obtain ⟨-, wo, ta, ow, rfl, -⟩ := h; exact mod_eq) ?_
  rintro _ _ ⟨rfl, wo, ta, ow, rfl, hT⟩
  refine ev_eq (lv' := [(0, .ref 0), (1, .int (zI (z)))]) (st' := [.int (nI (winB S 1023))]) (w' := modW 0 S ((X.rf, wo, ta, ow, 0, X.sh, X.lt, X.ty, X.pl, X.nu, X.od, X.tt, X.oo, X.on, X.wn, X.pd, X.li, X.rr, X.rn, X.dr) : ModN) K) rfl rfl rfl ?_
  have hwb := winB_lt hS 1023
  refine ev_b bX7_winners_4_6 (lv' := [(2, .int (nI (winB S 1023))), (0, .ref 0), (1, .int (zI (z)))]) (st' := [.int (zI (z))]) (w2 := modW 0 S ((X.rf, wo, ta, ow, 0, X.sh, X.lt, X.ty, X.pl, X.nu, X.od, X.tt, X.oo, X.on, X.wn, X.pd, X.li, X.rr, X.rn, X.dr) : ModN) K) rfl ?_
  refine ev_tableOut (tgt := 57) dX7_winners_6 (by rw [zI_toInt (by omega) (by omega)]; omega) (by decide) ?_
  refine ev_b bX7_winners_57_60 (lv' := [(2, .int (nI (winB S 1023))), (0, .ref 0), (1, .int (zI (z)))]) (st' := [.int (-2), .ref 0]) (w2 := modW 0 S ((X.rf, wo, ta, ow, 0, X.sh, X.lt, X.ty, X.pl, X.nu, X.od, X.tt, X.oo, X.on, X.wn, X.pd, X.li, X.rr, X.rn, X.dr) : ModN) K) rfl ?_
  refine ev_callM (Yc := mX7_refuses) (st := []) dX7_winners_60 tw_1012 kX7_refuses (m_X7_refuses_2 S ((X.rf, wo, ta, ow, 0, X.sh, X.lt, X.ty, X.pl, X.nu, X.od, X.tt, X.oo, X.on, X.wn, X.pd, X.li, X.rr, X.rn, X.dr) : ModN) K) rfl rfl rfl rfl (by decide) (Nat.le_of_ble_eq_true rfl) (Nat.le_refl _) (Nat.le_refl _) (fun r w' h => by obtain ⟨-, rfl⟩ := h; exact mod_eq) ?_
  rintro _ _ ⟨rfl, rfl⟩
  refine ev_eq (lv' := [(2, .int (nI (winB S 1023))), (0, .ref 0), (1, .int (zI (z)))]) (st' := [.int (-2)]) (w' := modW 0 S (((up X.rf 2 (X.rf 2 + 1)), wo, ta, ow, 0, X.sh, X.lt, X.ty, X.pl, X.nu, X.od, X.tt, X.oo, X.on, X.wn, X.pd, X.li, X.rr, X.rn, X.dr) : ModN) K) rfl rfl rfl ?_
  exact ev_iret dX7_winners_63 rfl mod_le (Nat.le_refl _) (Nat.le_refl _) ⟨rfl, _, rfl, mok_fresh hM.1 rfl hT, rfl, rfl, rfl, rfl, rfl⟩
theorem bX7_winners_36_37 {l : Launch} {E : XE} : Snd l E mX7_winners 36 37 (xs [x_iload 2]) := Snd.cons (snd_iload_n (i := 2) dX7_winners_36 rfl) Snd.nil
set_option maxHeartbeats 4000000 in
set_option maxRecDepth 100000 in
theorem q_winners_w0 {l : Launch} {E : XE} (S : SaleN) (X : ModN) (K : Option (Nat → Nat))  (hS : SaleOK S) (hM : MOK S X)  : MetE l E mX7_winners (6) 0 0 [.ref 0, .int (nI (0))] (modW 0 S X K) (MP S K (X.lt) (X.ty) (X.rr) (X.rn) (X.rf) (some (.int (nI (winB S 1023))))) := by
  refine MetE.of (by decide +kernel) (Nat.le_of_ble_eq_true rfl) ?_
  have hca := hS.1
  have hpw := pow_ca hS
  have hac := ac_lt hS
  have hshl := shl_le hS
  
  refine ev_eq (lv' := [(0, .ref 0), (1, .int (nI (0)))]) (st' := []) (w' := modW 0 S X K) rfl rfl rfl ?_
  refine ev_b bX7_winners_0_1 (lv' := [(0, .ref 0), (1, .int (nI (0)))]) (st' := [.ref 0]) (w2 := modW 0 S X K) rfl ?_
  refine ev_callM (Yc := mX7_winnersNow) (st := []) dX7_winners_1 tw_1104 kX7_winnersNow (m_X7_winnersNow_g S S.kd S.fg X K hS (kf_self hM.1) hM.2) rfl rfl rfl rfl (by decide) (Nat.le_of_ble_eq_true rfl) (Nat.le_refl _) (Nat.le_refl _) (fun r w' h => by obtain ⟨-, wo, ta, ow, rfl, -⟩ := h; exact mod_eq) ?_
  rintro _ _ ⟨rfl, wo, ta, ow, rfl, hT⟩
  refine ev_eq (lv' := [(0, .ref 0), (1, .int (nI (0)))]) (st' := [.int (nI (winB S 1023))]) (w' := modW 0 S ((X.rf, wo, ta, ow, 0, X.sh, X.lt, X.ty, X.pl, X.nu, X.od, X.tt, X.oo, X.on, X.wn, X.pd, X.li, X.rr, X.rn, X.dr) : ModN) K) rfl rfl rfl ?_
  have hwb := winB_lt hS 1023
  refine ev_b bX7_winners_4_6 (lv' := [(2, .int (nI (winB S 1023))), (0, .ref 0), (1, .int (nI (0)))]) (st' := [.int (nI (0))]) (w2 := modW 0 S ((X.rf, wo, ta, ow, 0, X.sh, X.lt, X.ty, X.pl, X.nu, X.od, X.tt, X.oo, X.on, X.wn, X.pd, X.li, X.rr, X.rn, X.dr) : ModN) K) rfl ?_
  refine ev_tableIn (off := 30) (tgt := 36) dX7_winners_6 (by decide) (by decide) (by decide) (by decide) ?_
  refine ev_b bX7_winners_36_37 (lv' := [(2, .int (nI (winB S 1023))), (0, .ref 0), (1, .int (nI (0)))]) (st' := [.int (nI (winB S 1023))]) (w2 := modW 0 S ((X.rf, wo, ta, ow, 0, X.sh, X.lt, X.ty, X.pl, X.nu, X.od, X.tt, X.oo, X.on, X.wn, X.pd, X.li, X.rr, X.rn, X.dr) : ModN) K) rfl ?_
  exact ev_iret dX7_winners_37 rfl mod_le (Nat.le_refl _) (Nat.le_refl _) ⟨rfl, _, rfl, mok_fresh hM.1 rfl hT, rfl, rfl, rfl, rfl, rfl⟩
theorem bX7_winners_38_43 {l : Launch} {E : XE} : Snd l E mX7_winners 38 43 (xs [x_aload 0, x_get 8 9, x_iload 2]) := Snd.cons (snd_aload_n (i := 0) dX7_winners_38 rfl) (Snd.cons (snd_get (ci := 8) (k := 9) dX7_winners_39 rfl inX7 (by decide) tw_923) (Snd.cons (snd_iload_n (i := 2) dX7_winners_42 rfl) Snd.nil))
set_option maxHeartbeats 4000000 in
set_option maxRecDepth 100000 in
theorem q_winners_w1 {l : Launch} {E : XE} (S : SaleN) (X : ModN) (K : Option (Nat → Nat))  (hS : SaleOK S) (hM : MOK S X)  : MetE l E mX7_winners (6) 0 0 [.ref 0, .int (nI (1))] (modW 0 S X K) (MP S K (X.lt) (X.ty) (X.rr) (X.rn) (X.rf) (some (.int (nI (winW S 1023))))) := by
  refine MetE.of (by decide +kernel) (Nat.le_of_ble_eq_true rfl) ?_
  have hca := hS.1
  have hpw := pow_ca hS
  have hac := ac_lt hS
  have hshl := shl_le hS
  
  refine ev_eq (lv' := [(0, .ref 0), (1, .int (nI (1)))]) (st' := []) (w' := modW 0 S X K) rfl rfl rfl ?_
  refine ev_b bX7_winners_0_1 (lv' := [(0, .ref 0), (1, .int (nI (1)))]) (st' := [.ref 0]) (w2 := modW 0 S X K) rfl ?_
  refine ev_callM (Yc := mX7_winnersNow) (st := []) dX7_winners_1 tw_1104 kX7_winnersNow (m_X7_winnersNow_g S S.kd S.fg X K hS (kf_self hM.1) hM.2) rfl rfl rfl rfl (by decide) (Nat.le_of_ble_eq_true rfl) (Nat.le_refl _) (Nat.le_refl _) (fun r w' h => by obtain ⟨-, wo, ta, ow, rfl, -⟩ := h; exact mod_eq) ?_
  rintro _ _ ⟨rfl, wo, ta, ow, rfl, hT⟩
  refine ev_eq (lv' := [(0, .ref 0), (1, .int (nI (1)))]) (st' := [.int (nI (winB S 1023))]) (w' := modW 0 S ((X.rf, wo, ta, ow, 0, X.sh, X.lt, X.ty, X.pl, X.nu, X.od, X.tt, X.oo, X.on, X.wn, X.pd, X.li, X.rr, X.rn, X.dr) : ModN) K) rfl rfl rfl ?_
  have hwb := winB_lt hS 1023
  refine ev_b bX7_winners_4_6 (lv' := [(2, .int (nI (winB S 1023))), (0, .ref 0), (1, .int (nI (1)))]) (st' := [.int (nI (1))]) (w2 := modW 0 S ((X.rf, wo, ta, ow, 0, X.sh, X.lt, X.ty, X.pl, X.nu, X.od, X.tt, X.oo, X.on, X.wn, X.pd, X.li, X.rr, X.rn, X.dr) : ModN) K) rfl ?_
  refine ev_tableIn (off := 32) (tgt := 38) dX7_winners_6 (by decide) (by decide) (by decide) (by decide) ?_
  refine ev_b bX7_winners_38_43 (lv' := [(2, .int (nI (winB S 1023))), (0, .ref 0), (1, .int (nI (1)))]) (st' := [.int (nI (winB S 1023)), .ref 8]) (w2 := modW 0 S ((X.rf, wo, ta, ow, 0, X.sh, X.lt, X.ty, X.pl, X.nu, X.od, X.tt, X.oo, X.on, X.wn, X.pd, X.li, X.rr, X.rn, X.dr) : ModN) K) rfl ?_
  refine ev_iald_z (f := wo) dX7_winners_43 rfl (by omega) (by decide) ?_
  refine ev_top (y := (nI (winW S 1023))) (by rw [show wo (winB S 1023) = ((winW S 1023 : Nat) : Int) from by rw [(hT _ (out_shl (win_spec hS (1023)).1)).1, out_wt (win_spec hS (1023)).1, (win_spec hS (1023)).2.2]]; exact zI_nat _) ?_
  exact ev_iret dX7_winners_44 rfl mod_le (Nat.le_refl _) (Nat.le_refl _) ⟨rfl, _, rfl, mok_fresh hM.1 rfl hT, rfl, rfl, rfl, rfl, rfl⟩
theorem bX7_winners_45_50 {l : Launch} {E : XE} : Snd l E mX7_winners 45 50 (xs [x_aload 0, x_get 8 10, x_iload 2]) := Snd.cons (snd_aload_n (i := 0) dX7_winners_45 rfl) (Snd.cons (snd_get (ci := 8) (k := 10) dX7_winners_46 rfl inX7 (by decide) tw_924) (Snd.cons (snd_iload_n (i := 2) dX7_winners_49 rfl) Snd.nil))
set_option maxHeartbeats 4000000 in
set_option maxRecDepth 100000 in
theorem q_winners_w2 {l : Launch} {E : XE} (S : SaleN) (X : ModN) (K : Option (Nat → Nat))  (hS : SaleOK S) (hM : MOK S X)  : MetE l E mX7_winners (6) 0 0 [.ref 0, .int (nI (2))] (modW 0 S X K) (MP S K (X.lt) (X.ty) (X.rr) (X.rn) (X.rf) (some (.int (nI (itTo S.st (winB S 1023) S.ca))))) := by
  refine MetE.of (by decide +kernel) (Nat.le_of_ble_eq_true rfl) ?_
  have hca := hS.1
  have hpw := pow_ca hS
  have hac := ac_lt hS
  have hshl := shl_le hS
  
  refine ev_eq (lv' := [(0, .ref 0), (1, .int (nI (2)))]) (st' := []) (w' := modW 0 S X K) rfl rfl rfl ?_
  refine ev_b bX7_winners_0_1 (lv' := [(0, .ref 0), (1, .int (nI (2)))]) (st' := [.ref 0]) (w2 := modW 0 S X K) rfl ?_
  refine ev_callM (Yc := mX7_winnersNow) (st := []) dX7_winners_1 tw_1104 kX7_winnersNow (m_X7_winnersNow_g S S.kd S.fg X K hS (kf_self hM.1) hM.2) rfl rfl rfl rfl (by decide) (Nat.le_of_ble_eq_true rfl) (Nat.le_refl _) (Nat.le_refl _) (fun r w' h => by obtain ⟨-, wo, ta, ow, rfl, -⟩ := h; exact mod_eq) ?_
  rintro _ _ ⟨rfl, wo, ta, ow, rfl, hT⟩
  refine ev_eq (lv' := [(0, .ref 0), (1, .int (nI (2)))]) (st' := [.int (nI (winB S 1023))]) (w' := modW 0 S ((X.rf, wo, ta, ow, 0, X.sh, X.lt, X.ty, X.pl, X.nu, X.od, X.tt, X.oo, X.on, X.wn, X.pd, X.li, X.rr, X.rn, X.dr) : ModN) K) rfl rfl rfl ?_
  have hwb := winB_lt hS 1023
  refine ev_b bX7_winners_4_6 (lv' := [(2, .int (nI (winB S 1023))), (0, .ref 0), (1, .int (nI (2)))]) (st' := [.int (nI (2))]) (w2 := modW 0 S ((X.rf, wo, ta, ow, 0, X.sh, X.lt, X.ty, X.pl, X.nu, X.od, X.tt, X.oo, X.on, X.wn, X.pd, X.li, X.rr, X.rn, X.dr) : ModN) K) rfl ?_
  refine ev_tableIn (off := 39) (tgt := 45) dX7_winners_6 (by decide) (by decide) (by decide) (by decide) ?_
  refine ev_b bX7_winners_45_50 (lv' := [(2, .int (nI (winB S 1023))), (0, .ref 0), (1, .int (nI (2)))]) (st' := [.int (nI (winB S 1023)), .ref 9]) (w2 := modW 0 S ((X.rf, wo, ta, ow, 0, X.sh, X.lt, X.ty, X.pl, X.nu, X.od, X.tt, X.oo, X.on, X.wn, X.pd, X.li, X.rr, X.rn, X.dr) : ModN) K) rfl ?_
  refine ev_iald_z (f := ta) dX7_winners_50 rfl (by omega) (by decide) ?_
  refine ev_top (y := (nI (itTo S.st (winB S 1023) S.ca))) (by rw [show ta (winB S 1023) = ((itTo S.st (winB S 1023) S.ca : Nat) : Int) from by rw [(hT _ (out_shl (win_spec hS 1023).1)).2]; exact out_tk (win_spec hS 1023).1]; exact zI_nat _) ?_
  exact ev_iret dX7_winners_51 rfl mod_le (Nat.le_refl _) (Nat.le_refl _) ⟨rfl, _, rfl, mok_fresh hM.1 rfl hT, rfl, rfl, rfl, rfl, rfl⟩
