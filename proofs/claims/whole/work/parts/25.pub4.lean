theorem wonZ_b {S : SaleN} (hS : SaleOK S) : BndZ (wonZ S) := fun k _ => by
  have := wonZ_bnd hS k
  omega
theorem andn_le (x y : Nat) : andn x y ≤ x := xor_and_le _ _

theorem bX6_rival_0_5 {l : Launch} {E : XE} : Snd l E mX6_rival 0 5 (xs [x_aload 0, x_get 7 0, x_iload 1]) := Snd.cons (snd_aload_n (i := 0) dX6_rival_0 rfl) (Snd.cons (snd_get (ci := 7) (k := 0) dX6_rival_1 rfl inX6 (by decide) tw_207) (Snd.cons (snd_iload_n (i := 1) dX6_rival_4 rfl) Snd.nil))
theorem bX6_rival_11_13 {l : Launch} {E : XE} : Snd l E mX6_rival 11 13 (xs [x_aload 0, x_push (.int (-1))]) := Snd.cons (snd_aload_n (i := 0) dX6_rival_11 rfl) (Snd.cons (snd_iconst (v := -1) dX6_rival_12 (by decide)) Snd.nil)
set_option maxHeartbeats 4000000 in
set_option maxRecDepth 100000 in
theorem p_rival_1 {l : Launch} {E : XE} (T : TopN) (S P U : SaleN) (O : OutN) (B : BillN) (Q : SeaN) (C : ScrN) (R : PrtN) (tl rf : Nat → Nat) (z1 z2 : Int) (hS : SaleOK S) (hQ : Q.fd < 2147483648) (rz1 : -2147483648 ≤ z1 ∧ z1 < 2147483648) (rz2 : -2147483648 ≤ z2 ∧ z2 < 2147483648) (h : ¬ (0 ≤ z1 ∧ z1 < S.ca)) : MetE l E mX6_rival (1) 0 0 [.ref 0, .int (zI (z1)), .int (zI (z2))] (compW T S P U O B Q C R tl rf) (CP T S P (C.lt) (C.sz) tl (up rf 1 (rf 1 + 1)) (some (.int (-1)))) := by
  refine MetE.of (by decide +kernel) (Nat.le_of_ble_eq_true rfl) ?_
  have hca := hS.1
  have hpw := pow_ca hS
  have hac := ac_lt hS
  
  refine ev_eq (lv' := [(0, .ref 0), (1, .int (zI (z1))), (2, .int (zI (z2)))]) (st' := []) (w' := compW T S P U O B Q C R tl rf) rfl rfl rfl ?_
  refine ev_b bX6_rival_0_5 (lv' := [(0, .ref 0), (1, .int (zI (z1))), (2, .int (zI (z2)))]) (st' := [.int (zI (z1)), .ref 1]) (w2 := compW T S P U O B Q C R tl rf) rfl ?_
  refine ev_callVN (Yc := mX3_hasBid) [1, 2, 3, 4, 5, 6, 7, 8] dX6_rival_5 tn_444 kX3_hasBid (m_X3_hasBid_z S z1 hS rz1) rfl (st := []) rfl rfl rfl (by decide) hw_comp__1 (by decide) (Nat.le_of_ble_eq_true rfl) (Nat.le_refl _) (Nat.le_refl _) (fun r w' h => by obtain ⟨-, rfl⟩ := h; exact Nat.le_of_ble_eq_true rfl) ?_
  rintro _ _ ⟨rfl, rfl⟩
  refine ev_eq (lv' := [(0, .ref 0), (1, .int (zI (z1))), (2, .int (zI (z2)))]) (st' := [.int (nI (b01 (0 ≤ z1 ∧ z1 < S.ca)))]) (w' := compW T S P U O B Q C R tl rf) rfl rfl xp_comp__1 ?_
  refine ev_ifne_b (tgt := 17) dX6_rival_8 (by decide) (fun h8 => (by exfalso; omega)) (fun h8 => ?_)
  refine ev_b bX6_rival_11_13 (lv' := [(0, .ref 0), (1, .int (zI (z1))), (2, .int (zI (z2)))]) (st' := [.int (-1), .ref 0]) (w2 := compW T S P U O B Q C R tl rf) rfl ?_
  refine ev_callV (Yc := mX6_refuse) (rng 0 49) dX6_rival_13 tw_248 kX6_refuse (m_X6_refuse_1 T S P U O B Q C R tl rf) rfl (st := []) rfl rfl rfl (by decide) (same_hw (compW T S P U O B Q C R tl rf)) (by decide) (Nat.le_of_ble_eq_true rfl) (Nat.le_refl _) (Nat.le_refl _) (fun r w' h => by obtain ⟨-, rfl⟩ := h; exact Nat.le_of_ble_eq_true rfl) ?_
  rintro _ _ ⟨rfl, rfl⟩
  refine ev_eq (lv' := [(0, .ref 0), (1, .int (zI (z1))), (2, .int (zI (z2)))]) (st' := [.int (-1)]) (w' := compW T S P U O B Q C R tl ((up rf 1 (rf 1 + 1)))) rfl rfl (same_xp (compW T S P U O B Q C R tl rf) (compW T S P U O B Q C R tl ((up rf 1 (rf 1 + 1)))) rfl) ?_
  exact ev_iret dX6_rival_16 rfl (Nat.le_refl 49) (Nat.le_refl _) (Nat.le_refl _) ⟨rfl, _, _, _, _, _, _, rfl, hQ, rfl, rfl⟩
theorem bX6_rival_17_26 {l : Launch} {E : XE} : Snd l E mX6_rival 17 26 (xs [x_aload 0, x_get 7 0, x_aload 0, x_get 7 0, x_iload 1]) := Snd.cons (snd_aload_n (i := 0) dX6_rival_17 rfl) (Snd.cons (snd_get (ci := 7) (k := 0) dX6_rival_18 rfl inX6 (by decide) tw_207) (Snd.cons (snd_aload_n (i := 0) dX6_rival_21 rfl) (Snd.cons (snd_get (ci := 7) (k := 0) dX6_rival_22 rfl inX6 (by decide) tw_207) (Snd.cons (snd_iload_n (i := 1) dX6_rival_25 rfl) Snd.nil))))
theorem bX6_rival_32_34 {l : Launch} {E : XE} : Snd l E mX6_rival 32 34 (xs [x_push (.int (nI 1)), x_iload 1]) := Snd.cons (snd_iconst (v := nI 1) dX6_rival_32 (by decide)) (Snd.cons (snd_iload_n (i := 1) dX6_rival_33 rfl) Snd.nil)
theorem bX6_rival_35_37 {l : Launch} {E : XE} : Snd l E mX6_rival 35 37 (xs [x_push (.int (-1)), x_i2 (fun x y => x ^^^ y)]) := Snd.cons (snd_iconst (v := -1) dX6_rival_35 (by decide)) (Snd.cons (snd_ixor dX6_rival_36) Snd.nil)
theorem bX6_rival_38_40 {l : Launch} {E : XE} : Snd l E mX6_rival 38 40 (xs [x_istore 3, x_iload 2]) := Snd.cons (snd_istore_n (i := 3) dX6_rival_38 rfl (by decide)) (Snd.cons (snd_iload_n (i := 2) dX6_rival_39 rfl) Snd.nil)
theorem bX6_rival_112_115 {l : Launch} {E : XE} : Snd l E mX6_rival 112 115 (xs [x_aload 0, x_push (.int (-2))]) := Snd.cons (snd_aload_n (i := 0) dX6_rival_112 rfl) (Snd.cons (snd_bipush (v := -2) dX6_rival_113 (by decide)) Snd.nil)
set_option maxHeartbeats 4000000 in
set_option maxRecDepth 100000 in
theorem p_rival_2 {l : Launch} {E : XE} (T : TopN) (S P U : SaleN) (O : OutN) (B : BillN) (Q : SeaN) (C : ScrN) (R : PrtN) (tl rf : Nat → Nat) (k : Nat) (z2 : Int) (hS : SaleOK S) (hQ : Q.fd < 2147483648) (rz2 : -2147483648 ≤ z2 ∧ z2 < 2147483648) (hk : k < S.ca) (h : z2 < 0 ∨ 2 < z2) : MetE l E mX6_rival (2) 0 0 [.ref 0, .int (nI (k)), .int (zI (z2))] (compW T S P U O B Q C R tl rf) (CP T S P (C.lt) (C.sz) tl (up rf 2 (rf 2 + 1)) (some (.int (-2)))) := by
  refine MetE.of (by decide +kernel) (Nat.le_of_ble_eq_true rfl) ?_
  have hca := hS.1
  have hpw := pow_ca hS
  have hac := ac_lt hS
  have hst := (hS.2.2.1 k hk).2.2.1
  have hprk := (hS.2.2.1 k hk).2.2.2
  have h1k : 1 <<< k < 2147483648 := Nat.lt_of_lt_of_le (shl_lt (show k < 31 by omega)) (by decide)
  have hrv : (andn (hdTo S.st (S.st k) S.ca &&& S.ac) (1 <<< k)) ≤ S.ac := Nat.le_trans (andn_le _ _) Nat.and_le_right
  refine ev_eq (lv' := [(0, .ref 0), (1, .int (nI (k))), (2, .int (zI (z2)))]) (st' := []) (w' := compW T S P U O B Q C R tl rf) rfl rfl rfl ?_
  refine ev_b bX6_rival_0_5 (lv' := [(0, .ref 0), (1, .int (nI (k))), (2, .int (zI (z2)))]) (st' := [.int (nI (k)), .ref 1]) (w2 := compW T S P U O B Q C R tl rf) rfl ?_
  refine ev_callVN (Yc := mX3_hasBid) [1, 2, 3, 4, 5, 6, 7, 8] dX6_rival_5 tn_444 kX3_hasBid (m_X3_hasBid S k hS (by omega)) rfl (st := []) rfl rfl rfl (by decide) hw_comp__1 (by decide) (Nat.le_of_ble_eq_true rfl) (Nat.le_refl _) (Nat.le_refl _) (fun r w' h => by obtain ⟨-, rfl⟩ := h; exact Nat.le_of_ble_eq_true rfl) ?_
  rintro _ _ ⟨rfl, rfl⟩
  refine ev_eq (lv' := [(0, .ref 0), (1, .int (nI (k))), (2, .int (zI (z2)))]) (st' := [.int (nI (b01 (k < S.ca)))]) (w' := compW T S P U O B Q C R tl rf) rfl rfl xp_comp__1 ?_
  refine ev_ifne_b (tgt := 17) dX6_rival_8 (by decide) (fun h8 => ?_) (fun h8 => (by exfalso; omega))
  refine ev_b bX6_rival_17_26 (lv' := [(0, .ref 0), (1, .int (nI (k))), (2, .int (zI (z2)))]) (st' := [.int (nI (k)), .ref 1, .ref 1]) (w2 := compW T S P U O B Q C R tl rf) rfl ?_
  refine ev_callVN (Yc := mX3_setOf) [1, 2, 3, 4, 5, 6, 7, 8] dX6_rival_26 tn_489 kX3_setOf (m_X3_setOf S k hS hk) rfl (st := [.ref 1]) rfl rfl rfl (by decide) hw_comp__1 (by decide) (Nat.le_of_ble_eq_true rfl) (Nat.le_refl _) (Nat.le_refl _) (fun r w' h => by obtain ⟨-, rfl⟩ := h; exact Nat.le_of_ble_eq_true rfl) ?_
  rintro _ _ ⟨rfl, rfl⟩
  refine ev_eq (lv' := [(0, .ref 0), (1, .int (nI (k))), (2, .int (zI (z2)))]) (st' := [.int (nI (S.st k)), .ref 1]) (w' := compW T S P U O B Q C R tl rf) rfl rfl xp_comp__1 ?_
  refine ev_callVN (Yc := mX3_holders) [1, 2, 3, 4, 5, 6, 7, 8] dX6_rival_29 tn_685 kX3_holders (m_X3_holders S (S.st k) hS (by omega)) rfl (st := []) rfl rfl rfl (by decide) hw_comp__1 (by decide) (Nat.le_of_ble_eq_true rfl) (Nat.le_refl _) (Nat.le_refl _) (fun r w' h => by obtain ⟨-, rfl⟩ := h; exact Nat.le_of_ble_eq_true rfl) ?_
  rintro _ _ ⟨rfl, rfl⟩
  refine ev_eq (lv' := [(0, .ref 0), (1, .int (nI (k))), (2, .int (zI (z2)))]) (st' := [.int (nI (hdTo S.st (S.st k) S.ca &&& S.ac))]) (w' := compW T S P U O B Q C R tl rf) rfl rfl xp_comp__1 ?_
  refine ev_b bX6_rival_32_34 (lv' := [(0, .ref 0), (1, .int (nI (k))), (2, .int (zI (z2)))]) (st' := [.int (nI (k)), .int (nI (1)), .int (nI (hdTo S.st (S.st k) S.ca &&& S.ac))]) (w2 := compW T S P U O B Q C R tl rf) rfl ?_
  refine ev_ishl_n (by omega) dX6_rival_34 ?_
  refine ev_b bX6_rival_35_37 (lv' := [(0, .ref 0), (1, .int (nI (k))), (2, .int (zI (z2)))]) (st' := [.int (nI (1 <<< k) ^^^ (-1)), .int (nI (hdTo S.st (S.st k) S.ca &&& S.ac))]) (w2 := compW T S P U O B Q C R tl rf) rfl ?_
  refine ev_iandn_n dX6_rival_37 ?_
  refine ev_b bX6_rival_38_40 (lv' := [(3, .int (nI (andn (hdTo S.st (S.st k) S.ca &&& S.ac) (1 <<< k)))), (0, .ref 0), (1, .int (nI (k))), (2, .int (zI (z2)))]) (st' := [.int (zI (z2))]) (w2 := compW T S P U O B Q C R tl rf) rfl ?_
  refine ev_tableOut (tgt := 112) dX6_rival_40 (by rw [zI_toInt (by omega) (by omega)]; omega) (by decide) ?_
  refine ev_b bX6_rival_112_115 (lv' := [(3, .int (nI (andn (hdTo S.st (S.st k) S.ca &&& S.ac) (1 <<< k)))), (0, .ref 0), (1, .int (nI (k))), (2, .int (zI (z2)))]) (st' := [.int (-2), .ref 0]) (w2 := compW T S P U O B Q C R tl rf) rfl ?_
  refine ev_callV (Yc := mX6_refuse) (rng 0 49) dX6_rival_115 tw_248 kX6_refuse (m_X6_refuse_2 T S P U O B Q C R tl rf) rfl (st := []) rfl rfl rfl (by decide) (same_hw (compW T S P U O B Q C R tl rf)) (by decide) (Nat.le_of_ble_eq_true rfl) (Nat.le_refl _) (Nat.le_refl _) (fun r w' h => by obtain ⟨-, rfl⟩ := h; exact Nat.le_of_ble_eq_true rfl) ?_
  rintro _ _ ⟨rfl, rfl⟩
  refine ev_eq (lv' := [(3, .int (nI (andn (hdTo S.st (S.st k) S.ca &&& S.ac) (1 <<< k)))), (0, .ref 0), (1, .int (nI (k))), (2, .int (zI (z2)))]) (st' := [.int (-2)]) (w' := compW T S P U O B Q C R tl ((up rf 2 (rf 2 + 1)))) rfl rfl (same_xp (compW T S P U O B Q C R tl rf) (compW T S P U O B Q C R tl ((up rf 2 (rf 2 + 1)))) rfl) ?_
  exact ev_iret dX6_rival_118 rfl (Nat.le_refl 49) (Nat.le_refl _) (Nat.le_refl _) ⟨rfl, _, _, _, _, _, _, rfl, hQ, rfl, rfl⟩
theorem bX6_rival_68_69 {l : Launch} {E : XE} : Snd l E mX6_rival 68 69 (xs [x_iload 3]) := Snd.cons (snd_iload_n (i := 3) dX6_rival_68 rfl) Snd.nil
set_option maxHeartbeats 4000000 in
set_option maxRecDepth 100000 in
theorem p_rival_w0 {l : Launch} {E : XE} (T : TopN) (S P U : SaleN) (O : OutN) (B : BillN) (Q : SeaN) (C : ScrN) (R : PrtN) (tl rf : Nat → Nat) (k : Nat) (hS : SaleOK S) (hQ : Q.fd < 2147483648) (hk : k < S.ca) : MetE l E mX6_rival (2) 0 0 [.ref 0, .int (nI (k)), .int (nI (0))] (compW T S P U O B Q C R tl rf) (CP T S P (C.lt) (C.sz) tl rf (some (.int (nI (andn (hdTo S.st (S.st k) S.ca &&& S.ac) (1 <<< k)))))) := by
  refine MetE.of (by decide +kernel) (Nat.le_of_ble_eq_true rfl) ?_
  have hca := hS.1
  have hpw := pow_ca hS
  have hac := ac_lt hS
  have hst := (hS.2.2.1 k hk).2.2.1
  have hprk := (hS.2.2.1 k hk).2.2.2
  have h1k : 1 <<< k < 2147483648 := Nat.lt_of_lt_of_le (shl_lt (show k < 31 by omega)) (by decide)
  have hrv : (andn (hdTo S.st (S.st k) S.ca &&& S.ac) (1 <<< k)) ≤ S.ac := Nat.le_trans (andn_le _ _) Nat.and_le_right
  refine ev_eq (lv' := [(0, .ref 0), (1, .int (nI (k))), (2, .int (nI (0)))]) (st' := []) (w' := compW T S P U O B Q C R tl rf) rfl rfl rfl ?_
  refine ev_b bX6_rival_0_5 (lv' := [(0, .ref 0), (1, .int (nI (k))), (2, .int (nI (0)))]) (st' := [.int (nI (k)), .ref 1]) (w2 := compW T S P U O B Q C R tl rf) rfl ?_
  refine ev_callVN (Yc := mX3_hasBid) [1, 2, 3, 4, 5, 6, 7, 8] dX6_rival_5 tn_444 kX3_hasBid (m_X3_hasBid S k hS (by omega)) rfl (st := []) rfl rfl rfl (by decide) hw_comp__1 (by decide) (Nat.le_of_ble_eq_true rfl) (Nat.le_refl _) (Nat.le_refl _) (fun r w' h => by obtain ⟨-, rfl⟩ := h; exact Nat.le_of_ble_eq_true rfl) ?_
  rintro _ _ ⟨rfl, rfl⟩
  refine ev_eq (lv' := [(0, .ref 0), (1, .int (nI (k))), (2, .int (nI (0)))]) (st' := [.int (nI (b01 (k < S.ca)))]) (w' := compW T S P U O B Q C R tl rf) rfl rfl xp_comp__1 ?_
  refine ev_ifne_b (tgt := 17) dX6_rival_8 (by decide) (fun h8 => ?_) (fun h8 => (by exfalso; omega))
  refine ev_b bX6_rival_17_26 (lv' := [(0, .ref 0), (1, .int (nI (k))), (2, .int (nI (0)))]) (st' := [.int (nI (k)), .ref 1, .ref 1]) (w2 := compW T S P U O B Q C R tl rf) rfl ?_
  refine ev_callVN (Yc := mX3_setOf) [1, 2, 3, 4, 5, 6, 7, 8] dX6_rival_26 tn_489 kX3_setOf (m_X3_setOf S k hS hk) rfl (st := [.ref 1]) rfl rfl rfl (by decide) hw_comp__1 (by decide) (Nat.le_of_ble_eq_true rfl) (Nat.le_refl _) (Nat.le_refl _) (fun r w' h => by obtain ⟨-, rfl⟩ := h; exact Nat.le_of_ble_eq_true rfl) ?_
  rintro _ _ ⟨rfl, rfl⟩
  refine ev_eq (lv' := [(0, .ref 0), (1, .int (nI (k))), (2, .int (nI (0)))]) (st' := [.int (nI (S.st k)), .ref 1]) (w' := compW T S P U O B Q C R tl rf) rfl rfl xp_comp__1 ?_
  refine ev_callVN (Yc := mX3_holders) [1, 2, 3, 4, 5, 6, 7, 8] dX6_rival_29 tn_685 kX3_holders (m_X3_holders S (S.st k) hS (by omega)) rfl (st := []) rfl rfl rfl (by decide) hw_comp__1 (by decide) (Nat.le_of_ble_eq_true rfl) (Nat.le_refl _) (Nat.le_refl _) (fun r w' h => by obtain ⟨-, rfl⟩ := h; exact Nat.le_of_ble_eq_true rfl) ?_
  rintro _ _ ⟨rfl, rfl⟩
  refine ev_eq (lv' := [(0, .ref 0), (1, .int (nI (k))), (2, .int (nI (0)))]) (st' := [.int (nI (hdTo S.st (S.st k) S.ca &&& S.ac))]) (w' := compW T S P U O B Q C R tl rf) rfl rfl xp_comp__1 ?_
  refine ev_b bX6_rival_32_34 (lv' := [(0, .ref 0), (1, .int (nI (k))), (2, .int (nI (0)))]) (st' := [.int (nI (k)), .int (nI (1)), .int (nI (hdTo S.st (S.st k) S.ca &&& S.ac))]) (w2 := compW T S P U O B Q C R tl rf) rfl ?_
  refine ev_ishl_n (by omega) dX6_rival_34 ?_
  refine ev_b bX6_rival_35_37 (lv' := [(0, .ref 0), (1, .int (nI (k))), (2, .int (nI (0)))]) (st' := [.int (nI (1 <<< k) ^^^ (-1)), .int (nI (hdTo S.st (S.st k) S.ca &&& S.ac))]) (w2 := compW T S P U O B Q C R tl rf) rfl ?_
  refine ev_iandn_n dX6_rival_37 ?_
  refine ev_b bX6_rival_38_40 (lv' := [(3, .int (nI (andn (hdTo S.st (S.st k) S.ca &&& S.ac) (1 <<< k)))), (0, .ref 0), (1, .int (nI (k))), (2, .int (nI (0)))]) (st' := [.int (nI (0))]) (w2 := compW T S P U O B Q C R tl rf) rfl ?_
  refine ev_tableIn (off := 28) (tgt := 68) dX6_rival_40 (by decide) (by decide) (by decide) (by decide) ?_
  refine ev_b bX6_rival_68_69 (lv' := [(3, .int (nI (andn (hdTo S.st (S.st k) S.ca &&& S.ac) (1 <<< k)))), (0, .ref 0), (1, .int (nI (k))), (2, .int (nI (0)))]) (st' := [.int (nI (andn (hdTo S.st (S.st k) S.ca &&& S.ac) (1 <<< k)))]) (w2 := compW T S P U O B Q C R tl rf) rfl ?_
  exact ev_iret dX6_rival_69 rfl (Nat.le_refl 49) (Nat.le_refl _) (Nat.le_refl _) ⟨rfl, _, _, _, _, _, _, rfl, hQ, rfl, rfl⟩
theorem bX6_rival_70_76 {l : Launch} {E : XE} : Snd l E mX6_rival 70 76 (xs [x_iload 3, x_aload 0, x_aload 0, x_get 7 0]) := Snd.cons (snd_iload_n (i := 3) dX6_rival_70 rfl) (Snd.cons (snd_aload_n (i := 0) dX6_rival_71 rfl) (Snd.cons (snd_aload_n (i := 0) dX6_rival_72 rfl) (Snd.cons (snd_get (ci := 7) (k := 0) dX6_rival_73 rfl inX6 (by decide) tw_207) Snd.nil)))
set_option maxHeartbeats 4000000 in
set_option maxRecDepth 100000 in
theorem p_rival_w1 {l : Launch} {E : XE} (T : TopN) (S P U : SaleN) (O : OutN) (B : BillN) (Q : SeaN) (C : ScrN) (R : PrtN) (tl rf : Nat → Nat) (k : Nat) (hS : SaleOK S) (hQ : Q.fd < 2147483648) (hk : k < S.ca) : MetE l E mX6_rival (5) 0 0 [.ref 0, .int (nI (k)), .int (nI (1))] (compW T S P U O B Q C R tl rf) (CP T S P (C.lt) (C.sz) tl rf (some (.int (nI ((andn (hdTo S.st (S.st k) S.ca &&& S.ac) (1 <<< k)) &&& winB S 1023))))) := by
  refine MetE.of (by decide +kernel) (Nat.le_of_ble_eq_true rfl) ?_
  have hca := hS.1
  have hpw := pow_ca hS
  have hac := ac_lt hS
  have hst := (hS.2.2.1 k hk).2.2.1
  have hprk := (hS.2.2.1 k hk).2.2.2
  have h1k : 1 <<< k < 2147483648 := Nat.lt_of_lt_of_le (shl_lt (show k < 31 by omega)) (by decide)
  have hrv : (andn (hdTo S.st (S.st k) S.ca &&& S.ac) (1 <<< k)) ≤ S.ac := Nat.le_trans (andn_le _ _) Nat.and_le_right
  refine ev_eq (lv' := [(0, .ref 0), (1, .int (nI (k))), (2, .int (nI (1)))]) (st' := []) (w' := compW T S P U O B Q C R tl rf) rfl rfl rfl ?_
  refine ev_b bX6_rival_0_5 (lv' := [(0, .ref 0), (1, .int (nI (k))), (2, .int (nI (1)))]) (st' := [.int (nI (k)), .ref 1]) (w2 := compW T S P U O B Q C R tl rf) rfl ?_
  refine ev_callVN (Yc := mX3_hasBid) [1, 2, 3, 4, 5, 6, 7, 8] dX6_rival_5 tn_444 kX3_hasBid (m_X3_hasBid S k hS (by omega)) rfl (st := []) rfl rfl rfl (by decide) hw_comp__1 (by decide) (Nat.le_of_ble_eq_true rfl) (Nat.le_refl _) (Nat.le_refl _) (fun r w' h => by obtain ⟨-, rfl⟩ := h; exact Nat.le_of_ble_eq_true rfl) ?_
  rintro _ _ ⟨rfl, rfl⟩
  refine ev_eq (lv' := [(0, .ref 0), (1, .int (nI (k))), (2, .int (nI (1)))]) (st' := [.int (nI (b01 (k < S.ca)))]) (w' := compW T S P U O B Q C R tl rf) rfl rfl xp_comp__1 ?_
  refine ev_ifne_b (tgt := 17) dX6_rival_8 (by decide) (fun h8 => ?_) (fun h8 => (by exfalso; omega))
  refine ev_b bX6_rival_17_26 (lv' := [(0, .ref 0), (1, .int (nI (k))), (2, .int (nI (1)))]) (st' := [.int (nI (k)), .ref 1, .ref 1]) (w2 := compW T S P U O B Q C R tl rf) rfl ?_
  refine ev_callVN (Yc := mX3_setOf) [1, 2, 3, 4, 5, 6, 7, 8] dX6_rival_26 tn_489 kX3_setOf (m_X3_setOf S k hS hk) rfl (st := [.ref 1]) rfl rfl rfl (by decide) hw_comp__1 (by decide) (Nat.le_of_ble_eq_true rfl) (Nat.le_refl _) (Nat.le_refl _) (fun r w' h => by obtain ⟨-, rfl⟩ := h; exact Nat.le_of_ble_eq_true rfl) ?_
  rintro _ _ ⟨rfl, rfl⟩
  refine ev_eq (lv' := [(0, .ref 0), (1, .int (nI (k))), (2, .int (nI (1)))]) (st' := [.int (nI (S.st k)), .ref 1]) (w' := compW T S P U O B Q C R tl rf) rfl rfl xp_comp__1 ?_
  refine ev_callVN (Yc := mX3_holders) [1, 2, 3, 4, 5, 6, 7, 8] dX6_rival_29 tn_685 kX3_holders (m_X3_holders S (S.st k) hS (by omega)) rfl (st := []) rfl rfl rfl (by decide) hw_comp__1 (by decide) (Nat.le_of_ble_eq_true rfl) (Nat.le_refl _) (Nat.le_refl _) (fun r w' h => by obtain ⟨-, rfl⟩ := h; exact Nat.le_of_ble_eq_true rfl) ?_
  rintro _ _ ⟨rfl, rfl⟩
  refine ev_eq (lv' := [(0, .ref 0), (1, .int (nI (k))), (2, .int (nI (1)))]) (st' := [.int (nI (hdTo S.st (S.st k) S.ca &&& S.ac))]) (w' := compW T S P U O B Q C R tl rf) rfl rfl xp_comp__1 ?_
  refine ev_b bX6_rival_32_34 (lv' := [(0, .ref 0), (1, .int (nI (k))), (2, .int (nI (1)))]) (st' := [.int (nI (k)), .int (nI (1)), .int (nI (hdTo S.st (S.st k) S.ca &&& S.ac))]) (w2 := compW T S P U O B Q C R tl rf) rfl ?_
  refine ev_ishl_n (by omega) dX6_rival_34 ?_
  refine ev_b bX6_rival_35_37 (lv' := [(0, .ref 0), (1, .int (nI (k))), (2, .int (nI (1)))]) (st' := [.int (nI (1 <<< k) ^^^ (-1)), .int (nI (hdTo S.st (S.st k) S.ca &&& S.ac))]) (w2 := compW T S P U O B Q C R tl rf) rfl ?_
  refine ev_iandn_n dX6_rival_37 ?_
  refine ev_b bX6_rival_38_40 (lv' := [(3, .int (nI (andn (hdTo S.st (S.st k) S.ca &&& S.ac) (1 <<< k)))), (0, .ref 0), (1, .int (nI (k))), (2, .int (nI (1)))]) (st' := [.int (nI (1))]) (w2 := compW T S P U O B Q C R tl rf) rfl ?_
  refine ev_tableIn (off := 30) (tgt := 70) dX6_rival_40 (by decide) (by decide) (by decide) (by decide) ?_
  refine ev_b bX6_rival_70_76 (lv' := [(3, .int (nI (andn (hdTo S.st (S.st k) S.ca &&& S.ac) (1 <<< k)))), (0, .ref 0), (1, .int (nI (k))), (2, .int (nI (1)))]) (st' := [.ref 1, .ref 0, .int (nI (andn (hdTo S.st (S.st k) S.ca &&& S.ac) (1 <<< k)))]) (w2 := compW T S P U O B Q C R tl rf) rfl ?_
  refine ev_callV (Yc := mX6_winnersOf) (rng 0 49) dX6_rival_76 tw_493 kX6_winnersOf (m_X6_winnersOf_S T S P U O B Q C R tl rf hS) rfl (st := [.int (nI (andn (hdTo S.st (S.st k) S.ca &&& S.ac) (1 <<< k)))]) rfl rfl rfl (by decide) (same_hw (compW T S P U O B Q C R tl rf)) (by decide) (Nat.le_of_ble_eq_true rfl) (Nat.le_refl _) (Nat.le_refl _) (fun r w' h => by obtain ⟨-, O', rfl, -⟩ := h; exact Nat.le_refl 49) ?_
  rintro _ _ ⟨rfl, O1, rfl, hK1⟩
  refine ev_eq (lv' := [(3, .int (nI (andn (hdTo S.st (S.st k) S.ca &&& S.ac) (1 <<< k)))), (0, .ref 0), (1, .int (nI (k))), (2, .int (nI (1)))]) (st' := [.int (nI (winB S 1023)), .int (nI (andn (hdTo S.st (S.st k) S.ca &&& S.ac) (1 <<< k)))]) (w' := compW T S P U O1 B Q C R tl rf) rfl rfl (same_xp (compW T S P U O B Q C R tl rf) (compW T S P U O1 B Q C R tl rf) rfl) ?_
  have hwb := winB_lt hS 1023
  refine ev_iand_n dX6_rival_79 ?_
  exact ev_iret dX6_rival_80 rfl (Nat.le_refl 49) (Nat.le_refl _) (Nat.le_refl _) ⟨rfl, _, _, _, _, _, _, rfl, hQ, rfl, rfl⟩
theorem bX6_lifts_0_1 {l : Launch} {E : XE} : Snd l E mX6_lifts 0 1 (xs [x_aload 0]) := Snd.cons (snd_aload_n (i := 0) dX6_lifts_0 rfl) Snd.nil
theorem bX6_lifts_4_11 {l : Launch} {E : XE} : Snd l E mX6_lifts 4 11 (xs [x_aload 0, x_get 7 4, x_get 1 7]) := Snd.cons (snd_aload_n (i := 0) dX6_lifts_4 rfl) (Snd.cons (snd_get (ci := 7) (k := 4) dX6_lifts_5 rfl inX6 (by decide) tw_211) (Snd.cons (snd_getN (ci := 1) (k := 7) dX6_lifts_8 rfl inX0 (by decide) tn_114) Snd.nil))
set_option maxHeartbeats 4000000 in
set_option maxRecDepth 100000 in
theorem p_lifts_ok {l : Launch} {E : XE} (T : TopN) (S P U : SaleN) (O : OutN) (B : BillN) (Q : SeaN) (C : ScrN) (R : PrtN) (tl rf : Nat → Nat) (n : Nat) (hS : SaleOK S) (hQ : Q.fd < 2147483648) (hn : LiftsTo S n) : MetE l E mX6_lifts (6) 0 0 [.ref 0] (compW T S P U O B Q C R tl rf) (CP T S P (C.lt) (C.sz) tl rf (some (.int (nI (n))))) := by
  refine MetE.of (by decide +kernel) (Nat.le_of_ble_eq_true rfl) ?_
  have hca := hS.1
  have hpw := pow_ca hS
  have hac := ac_lt hS
  
  refine ev_eq (lv' := [(0, .ref 0)]) (st' := []) (w' := compW T S P U O B Q C R tl rf) rfl rfl rfl ?_
  refine ev_b bX6_lifts_0_1 (lv' := [(0, .ref 0)]) (st' := [.ref 0]) (w2 := compW T S P U O B Q C R tl rf) rfl ?_
  refine ev_callV (Yc := mX6_chargeAndLift) (rng 0 49) dX6_lifts_1 tw_714 kX6_chargeAndLift (m_X6_chargeAndLift T S P U O B Q C R tl rf n hS hn) rfl (st := []) rfl rfl rfl (by decide) (same_hw (compW T S P U O B Q C R tl rf)) (by decide) (Nat.le_of_ble_eq_true rfl) (Nat.le_refl _) (Nat.le_refl _) (fun r w' h => by obtain ⟨-, O', rfl, -⟩ := h; exact Nat.le_refl 49) ?_
  rintro _ _ ⟨rfl, O1, rfl, hK1⟩
  refine ev_eq (lv' := [(0, .ref 0)]) (st' := []) (w' := compW T S P U O1 ((lfB S (itS S n) n)) Q C R tl rf) rfl rfl (same_xp (compW T S P U O B Q C R tl rf) (compW T S P U O1 ((lfB S (itS S n) n)) Q C R tl rf) rfl) ?_
  refine ev_b bX6_lifts_4_11 (lv' := [(0, .ref 0)]) (st' := [.int (nI (BillN.lc ((lfB S (itS S n) n))))]) (w2 := compW T S P U O1 ((lfB S (itS S n) n)) Q C R tl rf) rfl ?_
  exact ev_iret dX6_lifts_11 rfl (Nat.le_refl 49) (Nat.le_refl _) (Nat.le_refl _) ⟨rfl, _, _, _, _, _, _, rfl, hQ, rfl, rfl⟩
theorem bX6_pays_0_1 {l : Launch} {E : XE} : Snd l E mX6_pays 0 1 (xs [x_iload 1]) := Snd.cons (snd_iload_n (i := 1) dX6_pays_0 rfl) Snd.nil
theorem bX6_pays_7_9 {l : Launch} {E : XE} : Snd l E mX6_pays 7 9 (xs [x_aload 0, x_push (.int (-1))]) := Snd.cons (snd_aload_n (i := 0) dX6_pays_7 rfl) (Snd.cons (snd_iconst (v := -1) dX6_pays_8 (by decide)) Snd.nil)
set_option maxHeartbeats 4000000 in
set_option maxRecDepth 100000 in
theorem p_pays_1 {l : Launch} {E : XE} (T : TopN) (S P U : SaleN) (O : OutN) (B : BillN) (Q : SeaN) (C : ScrN) (R : PrtN) (tl rf : Nat → Nat) (z1 z2 : Int) (hS : SaleOK S) (hQ : Q.fd < 2147483648) (rz1 : -2147483648 ≤ z1 ∧ z1 < 2147483648) (rz2 : -2147483648 ≤ z2 ∧ z2 < 2147483648) (h : ¬ (0 ≤ z1 ∧ z1 < 5)) : MetE l E mX6_pays (1) 0 0 [.ref 0, .int (zI (z1)), .int (zI (z2))] (compW T S P U O B Q C R tl rf) (CP T S P (C.lt) (C.sz) tl (up rf 1 (rf 1 + 1)) (some (.int (-1)))) := by
  refine MetE.of (by decide +kernel) (Nat.le_of_ble_eq_true rfl) ?_
  have hca := hS.1
  have hpw := pow_ca hS
  have hac := ac_lt hS
  
  refine ev_eq (lv' := [(0, .ref 0), (1, .int (zI (z1))), (2, .int (zI (z2)))]) (st' := []) (w' := compW T S P U O B Q C R tl rf) rfl rfl rfl ?_
  refine ev_b bX6_pays_0_1 (lv' := [(0, .ref 0), (1, .int (zI (z1))), (2, .int (zI (z2)))]) (st' := [.int (zI (z1))]) (w2 := compW T S P U O B Q C R tl rf) rfl ?_
  refine ev_callS (Yc := mX6_isBidder) [] dX6_pays_1 tw_437 kX6_isBidder (m_X6_isBidder_z z1 rz1) rfl (st := []) rfl (by decide) rfl (by decide) (Nat.le_of_ble_eq_true rfl) (Nat.le_refl _) (Nat.le_refl _) (fun r w' h => by obtain ⟨-, rfl⟩ := h; exact Nat.le_of_ble_eq_true rfl) ?_
  rintro _ _ ⟨rfl, rfl⟩
  refine ev_eq (lv' := [(0, .ref 0), (1, .int (zI (z1))), (2, .int (zI (z2)))]) (st' := [.int (nI (b01 (0 ≤ z1 ∧ z1 < 5)))]) (w' := compW T S P U O B Q C R tl rf) rfl rfl rfl ?_
  refine ev_ifne_b (tgt := 13) dX6_pays_4 (by decide) (fun h4 => (by exfalso; omega)) (fun h4 => ?_)
  refine ev_b bX6_pays_7_9 (lv' := [(0, .ref 0), (1, .int (zI (z1))), (2, .int (zI (z2)))]) (st' := [.int (-1), .ref 0]) (w2 := compW T S P U O B Q C R tl rf) rfl ?_
  refine ev_callV (Yc := mX6_refuse) (rng 0 49) dX6_pays_9 tw_248 kX6_refuse (m_X6_refuse_1 T S P U O B Q C R tl rf) rfl (st := []) rfl rfl rfl (by decide) (same_hw (compW T S P U O B Q C R tl rf)) (by decide) (Nat.le_of_ble_eq_true rfl) (Nat.le_refl _) (Nat.le_refl _) (fun r w' h => by obtain ⟨-, rfl⟩ := h; exact Nat.le_of_ble_eq_true rfl) ?_
  rintro _ _ ⟨rfl, rfl⟩
  refine ev_eq (lv' := [(0, .ref 0), (1, .int (zI (z1))), (2, .int (zI (z2)))]) (st' := [.int (-1)]) (w' := compW T S P U O B Q C R tl ((up rf 1 (rf 1 + 1)))) rfl rfl (same_xp (compW T S P U O B Q C R tl rf) (compW T S P U O B Q C R tl ((up rf 1 (rf 1 + 1)))) rfl) ?_
  exact ev_iret dX6_pays_12 rfl (Nat.le_refl 49) (Nat.le_refl _) (Nat.le_refl _) ⟨rfl, _, _, _, _, _, _, rfl, hQ, rfl, rfl⟩
theorem bX6_pays_13_14 {l : Launch} {E : XE} : Snd l E mX6_pays 13 14 (xs [x_iload 2]) := Snd.cons (snd_iload_n (i := 2) dX6_pays_13 rfl) Snd.nil
theorem bX6_pays_20_23 {l : Launch} {E : XE} : Snd l E mX6_pays 20 23 (xs [x_aload 0, x_push (.int (-2))]) := Snd.cons (snd_aload_n (i := 0) dX6_pays_20 rfl) (Snd.cons (snd_bipush (v := -2) dX6_pays_21 (by decide)) Snd.nil)
set_option maxHeartbeats 4000000 in
set_option maxRecDepth 100000 in
theorem p_pays_2 {l : Launch} {E : XE} (T : TopN) (S P U : SaleN) (O : OutN) (B : BillN) (Q : SeaN) (C : ScrN) (R : PrtN) (tl rf : Nat → Nat) (b : Nat) (z2 : Int) (hS : SaleOK S) (hQ : Q.fd < 2147483648) (rz2 : -2147483648 ≤ z2 ∧ z2 < 2147483648) (hb : b < 5) (h : ¬ (0 ≤ z2 ∧ z2 < 3)) : MetE l E mX6_pays (1) 0 0 [.ref 0, .int (nI (b)), .int (zI (z2))] (compW T S P U O B Q C R tl rf) (CP T S P (C.lt) (C.sz) tl (up rf 2 (rf 2 + 1)) (some (.int (-2)))) := by
  refine MetE.of (by decide +kernel) (Nat.le_of_ble_eq_true rfl) ?_
  have hca := hS.1
  have hpw := pow_ca hS
  have hac := ac_lt hS
  
  refine ev_eq (lv' := [(0, .ref 0), (1, .int (nI (b))), (2, .int (zI (z2)))]) (st' := []) (w' := compW T S P U O B Q C R tl rf) rfl rfl rfl ?_
  refine ev_b bX6_pays_0_1 (lv' := [(0, .ref 0), (1, .int (nI (b))), (2, .int (zI (z2)))]) (st' := [.int (nI (b))]) (w2 := compW T S P U O B Q C R tl rf) rfl ?_
  refine ev_callS (Yc := mX6_isBidder) [] dX6_pays_1 tw_437 kX6_isBidder (m_X6_isBidder b (by omega)) rfl (st := []) rfl (by decide) rfl (by decide) (Nat.le_of_ble_eq_true rfl) (Nat.le_refl _) (Nat.le_refl _) (fun r w' h => by obtain ⟨-, rfl⟩ := h; exact Nat.le_of_ble_eq_true rfl) ?_
  rintro _ _ ⟨rfl, rfl⟩
  refine ev_eq (lv' := [(0, .ref 0), (1, .int (nI (b))), (2, .int (zI (z2)))]) (st' := [.int (nI (b01 (b < 5)))]) (w' := compW T S P U O B Q C R tl rf) rfl rfl rfl ?_
  refine ev_ifne_b (tgt := 13) dX6_pays_4 (by decide) (fun h4 => ?_) (fun h4 => (by exfalso; omega))
  refine ev_b bX6_pays_13_14 (lv' := [(0, .ref 0), (1, .int (nI (b))), (2, .int (zI (z2)))]) (st' := [.int (zI (z2))]) (w2 := compW T S P U O B Q C R tl rf) rfl ?_
  refine ev_callS (Yc := mX6_isHow) [] dX6_pays_14 tw_711 kX6_isHow (m_X6_isHow_z z2 rz2) rfl (st := []) rfl (by decide) rfl (by decide) (Nat.le_of_ble_eq_true rfl) (Nat.le_refl _) (Nat.le_refl _) (fun r w' h => by obtain ⟨-, rfl⟩ := h; exact Nat.le_of_ble_eq_true rfl) ?_
  rintro _ _ ⟨rfl, rfl⟩
  refine ev_eq (lv' := [(0, .ref 0), (1, .int (nI (b))), (2, .int (zI (z2)))]) (st' := [.int (nI (b01 (0 ≤ z2 ∧ z2 < 3)))]) (w' := compW T S P U O B Q C R tl rf) rfl rfl rfl ?_
  refine ev_ifne_b (tgt := 27) dX6_pays_17 (by decide) (fun h17 => (by exfalso; omega)) (fun h17 => ?_)
  refine ev_b bX6_pays_20_23 (lv' := [(0, .ref 0), (1, .int (nI (b))), (2, .int (zI (z2)))]) (st' := [.int (-2), .ref 0]) (w2 := compW T S P U O B Q C R tl rf) rfl ?_
  refine ev_callV (Yc := mX6_refuse) (rng 0 49) dX6_pays_23 tw_248 kX6_refuse (m_X6_refuse_2 T S P U O B Q C R tl rf) rfl (st := []) rfl rfl rfl (by decide) (same_hw (compW T S P U O B Q C R tl rf)) (by decide) (Nat.le_of_ble_eq_true rfl) (Nat.le_refl _) (Nat.le_refl _) (fun r w' h => by obtain ⟨-, rfl⟩ := h; exact Nat.le_of_ble_eq_true rfl) ?_
  rintro _ _ ⟨rfl, rfl⟩
  refine ev_eq (lv' := [(0, .ref 0), (1, .int (nI (b))), (2, .int (zI (z2)))]) (st' := [.int (-2)]) (w' := compW T S P U O B Q C R tl ((up rf 2 (rf 2 + 1)))) rfl rfl (same_xp (compW T S P U O B Q C R tl rf) (compW T S P U O B Q C R tl ((up rf 2 (rf 2 + 1)))) rfl) ?_
  exact ev_iret dX6_pays_26 rfl (Nat.le_refl 49) (Nat.le_refl _) (Nat.le_refl _) ⟨rfl, _, _, _, _, _, _, rfl, hQ, rfl, rfl⟩
theorem hw_comp__30 {x0 : TopN} {x1 : SaleN} {x2 : SaleN} {x3 : SaleN} {x4 : OutN} {x5 : BillN} {x6 : SeaN} {x7 : ScrN} {x8 : PrtN} {x9 : Nat → Nat} {x10 : Nat → Nat} : ([30, 31, 32, 33, 34] : List Nat).map (fun i => (compW x0 x1 x2 x3 x4 x5 x6 x7 x8 x9 x10)[i]?) = (billW 0 x5).map (fun e => some (xr ([30, 31, 32, 33, 34] : List Nat) (compW x0 x1 x2 x3 x4 x5 x6 x7 x8 x9 x10).length e)) := rfl
theorem xp_comp__30 {x0 : TopN} {x1 : SaleN} {x2 : SaleN} {x3 : SaleN} {x4 : OutN} {x5 : BillN} {x6 : SeaN} {x7 : ScrN} {x8 : PrtN} {x9 : Nat → Nat} {x10 : Nat → Nat} {y0 : BillN} : xput ([30, 31, 32, 33, 34] : List Nat) (compW x0 x1 x2 x3 x4 x5 x6 x7 x8 x9 x10).length (compW x0 x1 x2 x3 x4 x5 x6 x7 x8 x9 x10) ([30, 31, 32, 33, 34] : List Nat) (billW 0 y0) = compW x0 x1 x2 x3 x4 y0 x6 x7 x8 x9 x10 := by
  have e0 : xput ([30, 31, 32, 33, 34] : List Nat) (compW x0 x1 x2 x3 x4 x5 x6 x7 x8 x9 x10).length (compW x0 x1 x2 x3 x4 x5 x6 x7 x8 x9 x10) ([30, 31, 32, 33, 34] : List Nat) (billW 0 y0) = compW x0 x1 x2 x3 x4 y0 x6 x7 x8 x9 x10 := xput_blk (topW 0 x0 ++ (saleW 1 x1 ++ (saleW 9 x2 ++ (saleW 17 x3 ++ (outW 25 x4))))) (billW 30 x5) (seaW 35 x6 ++ (scrW 38 x7 ++ (prtW 45 x8 ++ (row5 47 x9 ++ (row7 48 x10))))) (billW 0 y0) rfl
  exact e0
theorem bX6_pays_27_28 {l : Launch} {E : XE} : Snd l E mX6_pays 27 28 (xs [x_aload 0]) := Snd.cons (snd_aload_n (i := 0) dX6_pays_27 rfl) Snd.nil
theorem bX6_pays_31_37 {l : Launch} {E : XE} : Snd l E mX6_pays 31 37 (xs [x_aload 0, x_get 7 4, x_iload 2, x_iload 1]) := Snd.cons (snd_aload_n (i := 0) dX6_pays_31 rfl) (Snd.cons (snd_get (ci := 7) (k := 4) dX6_pays_32 rfl inX6 (by decide) tw_211) (Snd.cons (snd_iload_n (i := 2) dX6_pays_35 rfl) (Snd.cons (snd_iload_n (i := 1) dX6_pays_36 rfl) Snd.nil)))
set_option maxHeartbeats 4000000 in
set_option maxRecDepth 100000 in
theorem p_pays_w0 {l : Launch} {E : XE} (T : TopN) (S P U : SaleN) (O : OutN) (B : BillN) (Q : SeaN) (C : ScrN) (R : PrtN) (tl rf : Nat → Nat) (n b : Nat) (hS : SaleOK S) (hQ : Q.fd < 2147483648) (hn : LiftsTo S n) (hb : b < 5) : MetE l E mX6_pays (6) 0 0 [.ref 0, .int (nI (b)), .int (nI (0))] (compW T S P U O B Q C R tl rf) (CP T S P (C.lt) (C.sz) tl rf (some (.int (zI ((wonZ S) b))))) := by
  refine MetE.of (by decide +kernel) (Nat.le_of_ble_eq_true rfl) ?_
  have hca := hS.1
  have hpw := pow_ca hS
  have hac := ac_lt hS
  
  refine ev_eq (lv' := [(0, .ref 0), (1, .int (nI (b))), (2, .int (nI (0)))]) (st' := []) (w' := compW T S P U O B Q C R tl rf) rfl rfl rfl ?_
  refine ev_b bX6_pays_0_1 (lv' := [(0, .ref 0), (1, .int (nI (b))), (2, .int (nI (0)))]) (st' := [.int (nI (b))]) (w2 := compW T S P U O B Q C R tl rf) rfl ?_
  refine ev_callS (Yc := mX6_isBidder) [] dX6_pays_1 tw_437 kX6_isBidder (m_X6_isBidder b (by omega)) rfl (st := []) rfl (by decide) rfl (by decide) (Nat.le_of_ble_eq_true rfl) (Nat.le_refl _) (Nat.le_refl _) (fun r w' h => by obtain ⟨-, rfl⟩ := h; exact Nat.le_of_ble_eq_true rfl) ?_
  rintro _ _ ⟨rfl, rfl⟩
  refine ev_eq (lv' := [(0, .ref 0), (1, .int (nI (b))), (2, .int (nI (0)))]) (st' := [.int (nI (b01 (b < 5)))]) (w' := compW T S P U O B Q C R tl rf) rfl rfl rfl ?_
  refine ev_ifne_b (tgt := 13) dX6_pays_4 (by decide) (fun h4 => ?_) (fun h4 => (by exfalso; omega))
  refine ev_b bX6_pays_13_14 (lv' := [(0, .ref 0), (1, .int (nI (b))), (2, .int (nI (0)))]) (st' := [.int (nI (0))]) (w2 := compW T S P U O B Q C R tl rf) rfl ?_
  refine ev_callS (Yc := mX6_isHow) [] dX6_pays_14 tw_711 kX6_isHow m_X6_isHow_0 rfl (st := []) rfl (by decide) rfl (by decide) (Nat.le_of_ble_eq_true rfl) (Nat.le_refl _) (Nat.le_refl _) (fun r w' h => by obtain ⟨-, rfl⟩ := h; exact Nat.le_of_ble_eq_true rfl) ?_
  rintro _ _ ⟨rfl, rfl⟩
  refine ev_eq (lv' := [(0, .ref 0), (1, .int (nI (b))), (2, .int (nI (0)))]) (st' := [.int (nI (1))]) (w' := compW T S P U O B Q C R tl rf) rfl rfl rfl ?_
  refine ev_if_ne_n (tgt := 27) (by decide) dX6_pays_17 (by decide) (fun h17 => ?_) (fun h17 => (by exfalso; omega))
  refine ev_b bX6_pays_27_28 (lv' := [(0, .ref 0), (1, .int (nI (b))), (2, .int (nI (0)))]) (st' := [.ref 0]) (w2 := compW T S P U O B Q C R tl rf) rfl ?_
  refine ev_callV (Yc := mX6_chargeAndLift) (rng 0 49) dX6_pays_28 tw_714 kX6_chargeAndLift (m_X6_chargeAndLift T S P U O B Q C R tl rf n hS hn) rfl (st := []) rfl rfl rfl (by decide) (same_hw (compW T S P U O B Q C R tl rf)) (by decide) (Nat.le_of_ble_eq_true rfl) (Nat.le_refl _) (Nat.le_refl _) (fun r w' h => by obtain ⟨-, O', rfl, -⟩ := h; exact Nat.le_refl 49) ?_
  rintro _ _ ⟨rfl, O1, rfl, hK1⟩
  refine ev_eq (lv' := [(0, .ref 0), (1, .int (nI (b))), (2, .int (nI (0)))]) (st' := []) (w' := compW T S P U O1 ((lfB S (itS S n) n)) Q C R tl rf) rfl rfl (same_xp (compW T S P U O B Q C R tl rf) (compW T S P U O1 ((lfB S (itS S n) n)) Q C R tl rf) rfl) ?_
  refine ev_b bX6_pays_31_37 (lv' := [(0, .ref 0), (1, .int (nI (b))), (2, .int (nI (0)))]) (st' := [.int (nI (b)), .int (nI (0)), .ref 30]) (w2 := compW T S P U O1 ((lfB S (itS S n) n)) Q C R tl rf) rfl ?_
  refine ev_callVN (Yc := mX0_payment) [30, 31, 32, 33, 34] dX6_pays_37 tn_741 kX0_payment (m_X0_payment_0 (lfB S (itS S n) n) b hb) rfl (st := []) rfl rfl rfl (by decide) hw_comp__30 (by decide) (Nat.le_of_ble_eq_true rfl) (Nat.le_refl _) (Nat.le_refl _) (fun r w' h => by obtain ⟨-, rfl⟩ := h; exact Nat.le_of_ble_eq_true rfl) ?_
  rintro _ _ ⟨rfl, rfl⟩
  refine ev_eq (lv' := [(0, .ref 0), (1, .int (nI (b))), (2, .int (nI (0)))]) (st' := [.int (zI (BillN.wo (lfB S (itS S n) n) b))]) (w' := compW T S P U O1 ((lfB S (itS S n) n)) Q C R tl rf) rfl rfl xp_comp__30 ?_
  refine ev_top (y := (zI ((wonZ S) b))) (congrArg zI (show BillN.wo (lfB S (itS S n) n) b = (wonZ S) b from by rfl)) ?_
  exact ev_iret dX6_pays_40 rfl (Nat.le_refl 49) (Nat.le_refl _) (Nat.le_refl _) ⟨rfl, _, _, _, _, _, _, rfl, hQ, rfl, rfl⟩
set_option maxHeartbeats 4000000 in
set_option maxRecDepth 100000 in
theorem p_pays_w1 {l : Launch} {E : XE} (T : TopN) (S P U : SaleN) (O : OutN) (B : BillN) (Q : SeaN) (C : ScrN) (R : PrtN) (tl rf : Nat → Nat) (n b : Nat) (hS : SaleOK S) (hQ : Q.fd < 2147483648) (hn : LiftsTo S n) (hb : b < 5) : MetE l E mX6_pays (6) 0 0 [.ref 0, .int (nI (b)), .int (nI (1))] (compW T S P U O B Q C R tl rf) (CP T S P (C.lt) (C.sz) tl rf (some (.int (zI ((paidZ S) b))))) := by
  refine MetE.of (by decide +kernel) (Nat.le_of_ble_eq_true rfl) ?_
  have hca := hS.1
  have hpw := pow_ca hS
  have hac := ac_lt hS
  
  refine ev_eq (lv' := [(0, .ref 0), (1, .int (nI (b))), (2, .int (nI (1)))]) (st' := []) (w' := compW T S P U O B Q C R tl rf) rfl rfl rfl ?_
  refine ev_b bX6_pays_0_1 (lv' := [(0, .ref 0), (1, .int (nI (b))), (2, .int (nI (1)))]) (st' := [.int (nI (b))]) (w2 := compW T S P U O B Q C R tl rf) rfl ?_
  refine ev_callS (Yc := mX6_isBidder) [] dX6_pays_1 tw_437 kX6_isBidder (m_X6_isBidder b (by omega)) rfl (st := []) rfl (by decide) rfl (by decide) (Nat.le_of_ble_eq_true rfl) (Nat.le_refl _) (Nat.le_refl _) (fun r w' h => by obtain ⟨-, rfl⟩ := h; exact Nat.le_of_ble_eq_true rfl) ?_
  rintro _ _ ⟨rfl, rfl⟩
  refine ev_eq (lv' := [(0, .ref 0), (1, .int (nI (b))), (2, .int (nI (1)))]) (st' := [.int (nI (b01 (b < 5)))]) (w' := compW T S P U O B Q C R tl rf) rfl rfl rfl ?_
  refine ev_ifne_b (tgt := 13) dX6_pays_4 (by decide) (fun h4 => ?_) (fun h4 => (by exfalso; omega))
  refine ev_b bX6_pays_13_14 (lv' := [(0, .ref 0), (1, .int (nI (b))), (2, .int (nI (1)))]) (st' := [.int (nI (1))]) (w2 := compW T S P U O B Q C R tl rf) rfl ?_
  refine ev_callS (Yc := mX6_isHow) [] dX6_pays_14 tw_711 kX6_isHow m_X6_isHow_1 rfl (st := []) rfl (by decide) rfl (by decide) (Nat.le_of_ble_eq_true rfl) (Nat.le_refl _) (Nat.le_refl _) (fun r w' h => by obtain ⟨-, rfl⟩ := h; exact Nat.le_of_ble_eq_true rfl) ?_
  rintro _ _ ⟨rfl, rfl⟩
  refine ev_eq (lv' := [(0, .ref 0), (1, .int (nI (b))), (2, .int (nI (1)))]) (st' := [.int (nI (1))]) (w' := compW T S P U O B Q C R tl rf) rfl rfl rfl ?_
  refine ev_if_ne_n (tgt := 27) (by decide) dX6_pays_17 (by decide) (fun h17 => ?_) (fun h17 => (by exfalso; omega))
  refine ev_b bX6_pays_27_28 (lv' := [(0, .ref 0), (1, .int (nI (b))), (2, .int (nI (1)))]) (st' := [.ref 0]) (w2 := compW T S P U O B Q C R tl rf) rfl ?_
  refine ev_callV (Yc := mX6_chargeAndLift) (rng 0 49) dX6_pays_28 tw_714 kX6_chargeAndLift (m_X6_chargeAndLift T S P U O B Q C R tl rf n hS hn) rfl (st := []) rfl rfl rfl (by decide) (same_hw (compW T S P U O B Q C R tl rf)) (by decide) (Nat.le_of_ble_eq_true rfl) (Nat.le_refl _) (Nat.le_refl _) (fun r w' h => by obtain ⟨-, O', rfl, -⟩ := h; exact Nat.le_refl 49) ?_
  rintro _ _ ⟨rfl, O1, rfl, hK1⟩
  refine ev_eq (lv' := [(0, .ref 0), (1, .int (nI (b))), (2, .int (nI (1)))]) (st' := []) (w' := compW T S P U O1 ((lfB S (itS S n) n)) Q C R tl rf) rfl rfl (same_xp (compW T S P U O B Q C R tl rf) (compW T S P U O1 ((lfB S (itS S n) n)) Q C R tl rf) rfl) ?_
  refine ev_b bX6_pays_31_37 (lv' := [(0, .ref 0), (1, .int (nI (b))), (2, .int (nI (1)))]) (st' := [.int (nI (b)), .int (nI (1)), .ref 30]) (w2 := compW T S P U O1 ((lfB S (itS S n) n)) Q C R tl rf) rfl ?_
  refine ev_callVN (Yc := mX0_payment) [30, 31, 32, 33, 34] dX6_pays_37 tn_741 kX0_payment (m_X0_payment_1 (lfB S (itS S n) n) b hb) rfl (st := []) rfl rfl rfl (by decide) hw_comp__30 (by decide) (Nat.le_of_ble_eq_true rfl) (Nat.le_refl _) (Nat.le_refl _) (fun r w' h => by obtain ⟨-, rfl⟩ := h; exact Nat.le_of_ble_eq_true rfl) ?_
  rintro _ _ ⟨rfl, rfl⟩
  refine ev_eq (lv' := [(0, .ref 0), (1, .int (nI (b))), (2, .int (nI (1)))]) (st' := [.int (zI (BillN.ha (lfB S (itS S n) n) b))]) (w' := compW T S P U O1 ((lfB S (itS S n) n)) Q C R tl rf) rfl rfl xp_comp__30 ?_
  refine ev_top (y := (zI ((paidZ S) b))) (congrArg zI (show BillN.ha (lfB S (itS S n) n) b = (paidZ S) b from by rfl)) ?_
  exact ev_iret dX6_pays_40 rfl (Nat.le_refl 49) (Nat.le_refl _) (Nat.le_refl _) ⟨rfl, _, _, _, _, _, _, rfl, hQ, rfl, rfl⟩
set_option maxHeartbeats 4000000 in
set_option maxRecDepth 100000 in
theorem p_pays_w2 {l : Launch} {E : XE} (T : TopN) (S P U : SaleN) (O : OutN) (B : BillN) (Q : SeaN) (C : ScrN) (R : PrtN) (tl rf : Nat → Nat) (n b : Nat) (hS : SaleOK S) (hQ : Q.fd < 2147483648) (hn : LiftsTo S n) (hb : b < 5) : MetE l E mX6_pays (6) 0 0 [.ref 0, .int (nI (b)), .int (nI (2))] (compW T S P U O B Q C R tl rf) (CP T S P (C.lt) (C.sz) tl rf (some (.int (zI (itS S n b))))) := by
  refine MetE.of (by decide +kernel) (Nat.le_of_ble_eq_true rfl) ?_
  have hca := hS.1
  have hpw := pow_ca hS
  have hac := ac_lt hS
  
  refine ev_eq (lv' := [(0, .ref 0), (1, .int (nI (b))), (2, .int (nI (2)))]) (st' := []) (w' := compW T S P U O B Q C R tl rf) rfl rfl rfl ?_
  refine ev_b bX6_pays_0_1 (lv' := [(0, .ref 0), (1, .int (nI (b))), (2, .int (nI (2)))]) (st' := [.int (nI (b))]) (w2 := compW T S P U O B Q C R tl rf) rfl ?_
  refine ev_callS (Yc := mX6_isBidder) [] dX6_pays_1 tw_437 kX6_isBidder (m_X6_isBidder b (by omega)) rfl (st := []) rfl (by decide) rfl (by decide) (Nat.le_of_ble_eq_true rfl) (Nat.le_refl _) (Nat.le_refl _) (fun r w' h => by obtain ⟨-, rfl⟩ := h; exact Nat.le_of_ble_eq_true rfl) ?_
  rintro _ _ ⟨rfl, rfl⟩
  refine ev_eq (lv' := [(0, .ref 0), (1, .int (nI (b))), (2, .int (nI (2)))]) (st' := [.int (nI (b01 (b < 5)))]) (w' := compW T S P U O B Q C R tl rf) rfl rfl rfl ?_
  refine ev_ifne_b (tgt := 13) dX6_pays_4 (by decide) (fun h4 => ?_) (fun h4 => (by exfalso; omega))
  refine ev_b bX6_pays_13_14 (lv' := [(0, .ref 0), (1, .int (nI (b))), (2, .int (nI (2)))]) (st' := [.int (nI (2))]) (w2 := compW T S P U O B Q C R tl rf) rfl ?_
  refine ev_callS (Yc := mX6_isHow) [] dX6_pays_14 tw_711 kX6_isHow m_X6_isHow_2 rfl (st := []) rfl (by decide) rfl (by decide) (Nat.le_of_ble_eq_true rfl) (Nat.le_refl _) (Nat.le_refl _) (fun r w' h => by obtain ⟨-, rfl⟩ := h; exact Nat.le_of_ble_eq_true rfl) ?_
  rintro _ _ ⟨rfl, rfl⟩
  refine ev_eq (lv' := [(0, .ref 0), (1, .int (nI (b))), (2, .int (nI (2)))]) (st' := [.int (nI (1))]) (w' := compW T S P U O B Q C R tl rf) rfl rfl rfl ?_
  refine ev_if_ne_n (tgt := 27) (by decide) dX6_pays_17 (by decide) (fun h17 => ?_) (fun h17 => (by exfalso; omega))
  refine ev_b bX6_pays_27_28 (lv' := [(0, .ref 0), (1, .int (nI (b))), (2, .int (nI (2)))]) (st' := [.ref 0]) (w2 := compW T S P U O B Q C R tl rf) rfl ?_
  refine ev_callV (Yc := mX6_chargeAndLift) (rng 0 49) dX6_pays_28 tw_714 kX6_chargeAndLift (m_X6_chargeAndLift T S P U O B Q C R tl rf n hS hn) rfl (st := []) rfl rfl rfl (by decide) (same_hw (compW T S P U O B Q C R tl rf)) (by decide) (Nat.le_of_ble_eq_true rfl) (Nat.le_refl _) (Nat.le_refl _) (fun r w' h => by obtain ⟨-, O', rfl, -⟩ := h; exact Nat.le_refl 49) ?_
  rintro _ _ ⟨rfl, O1, rfl, hK1⟩
  refine ev_eq (lv' := [(0, .ref 0), (1, .int (nI (b))), (2, .int (nI (2)))]) (st' := []) (w' := compW T S P U O1 ((lfB S (itS S n) n)) Q C R tl rf) rfl rfl (same_xp (compW T S P U O B Q C R tl rf) (compW T S P U O1 ((lfB S (itS S n) n)) Q C R tl rf) rfl) ?_
  refine ev_b bX6_pays_31_37 (lv' := [(0, .ref 0), (1, .int (nI (b))), (2, .int (nI (2)))]) (st' := [.int (nI (b)), .int (nI (2)), .ref 30]) (w2 := compW T S P U O1 ((lfB S (itS S n) n)) Q C R tl rf) rfl ?_
  refine ev_callVN (Yc := mX0_payment) [30, 31, 32, 33, 34] dX6_pays_37 tn_741 kX0_payment (m_X0_payment_2 (lfB S (itS S n) n) b hb) rfl (st := []) rfl rfl rfl (by decide) hw_comp__30 (by decide) (Nat.le_of_ble_eq_true rfl) (Nat.le_refl _) (Nat.le_refl _) (fun r w' h => by obtain ⟨-, rfl⟩ := h; exact Nat.le_of_ble_eq_true rfl) ?_
  rintro _ _ ⟨rfl, rfl⟩
  refine ev_eq (lv' := [(0, .ref 0), (1, .int (nI (b))), (2, .int (nI (2)))]) (st' := [.int (zI (BillN.li (lfB S (itS S n) n) b))]) (w' := compW T S P U O1 ((lfB S (itS S n) n)) Q C R tl rf) rfl rfl xp_comp__30 ?_
  refine ev_top (y := (zI (itS S n b))) (congrArg zI (show BillN.li (lfB S (itS S n) n) b = itS S n b from by rfl)) ?_
  exact ev_iret dX6_pays_40 rfl (Nat.le_refl 49) (Nat.le_refl _) (Nat.le_refl _) ⟨rfl, _, _, _, _, _, _, rfl, hQ, rfl, rfl⟩
theorem bX6_row_0_1 {l : Launch} {E : XE} : Snd l E mX6_row 0 1 (xs [x_iload 1]) := Snd.cons (snd_iload_n (i := 1) dX6_row_0 rfl) Snd.nil
theorem bX6_row_4_7 {l : Launch} {E : XE} : Snd l E mX6_row 4 7 (xs [x_aload 0, x_push (.int (-4))]) := Snd.cons (snd_aload_n (i := 0) dX6_row_4 rfl) (Snd.cons (snd_bipush (v := -4) dX6_row_5 (by decide)) Snd.nil)
set_option maxHeartbeats 4000000 in
set_option maxRecDepth 100000 in
theorem p_row_4 {l : Launch} {E : XE} (T : TopN) (S P U : SaleN) (O : OutN) (B : BillN) (Q : SeaN) (C : ScrN) (R : PrtN) (tl rf : Nat → Nat) (z : Int) (hS : SaleOK S) (hQ : Q.fd < 2147483648) (rz : -2147483648 ≤ z ∧ z < 2147483648) (h : z < 0) : MetE l E mX6_row (1) 0 0 [.ref 0, .int (zI (z))] (compW T S P U O B Q C R tl rf) (CP T S P (C.lt) (C.sz) tl (up rf 4 (rf 4 + 1)) (some (.int (-4)))) := by
  refine MetE.of (by decide +kernel) (Nat.le_of_ble_eq_true rfl) ?_
  have hca := hS.1
  have hpw := pow_ca hS
  have hac := ac_lt hS
  
  refine ev_eq (lv' := [(0, .ref 0), (1, .int (zI (z)))]) (st' := []) (w' := compW T S P U O B Q C R tl rf) rfl rfl rfl ?_
  refine ev_b bX6_row_0_1 (lv' := [(0, .ref 0), (1, .int (zI (z)))]) (st' := [.int (zI (z))]) (w2 := compW T S P U O B Q C R tl rf) rfl ?_
  refine ev_if_ge_z (tgt := 11) (by constructor <;> omega) dX6_row_1 (by decide) (fun h1 => (by exfalso; omega)) (fun h1 => ?_)
  refine ev_b bX6_row_4_7 (lv' := [(0, .ref 0), (1, .int (zI (z)))]) (st' := [.int (-4), .ref 0]) (w2 := compW T S P U O B Q C R tl rf) rfl ?_
  refine ev_callV (Yc := mX6_refuse) (rng 0 49) dX6_row_7 tw_248 kX6_refuse (m_X6_refuse_4 T S P U O B Q C R tl rf) rfl (st := []) rfl rfl rfl (by decide) (same_hw (compW T S P U O B Q C R tl rf)) (by decide) (Nat.le_of_ble_eq_true rfl) (Nat.le_refl _) (Nat.le_refl _) (fun r w' h => by obtain ⟨-, rfl⟩ := h; exact Nat.le_of_ble_eq_true rfl) ?_
  rintro _ _ ⟨rfl, rfl⟩
  refine ev_eq (lv' := [(0, .ref 0), (1, .int (zI (z)))]) (st' := [.int (-4)]) (w' := compW T S P U O B Q C R tl ((up rf 4 (rf 4 + 1)))) rfl rfl (same_xp (compW T S P U O B Q C R tl rf) (compW T S P U O B Q C R tl ((up rf 4 (rf 4 + 1)))) rfl) ?_
  exact ev_iret dX6_row_10 rfl (Nat.le_refl 49) (Nat.le_refl _) (Nat.le_refl _) ⟨rfl, _, _, _, _, _, _, rfl, hQ, rfl, rfl⟩
theorem bX6_row_11_14 {l : Launch} {E : XE} : Snd l E mX6_row 11 14 (xs [x_iload 1, x_push (.int (nI 99))]) := Snd.cons (snd_iload_n (i := 1) dX6_row_11 rfl) (Snd.cons (snd_bipush (v := nI 99) dX6_row_12 (by decide)) Snd.nil)
theorem bX6_row_25_28 {l : Launch} {E : XE} : Snd l E mX6_row 25 28 (xs [x_aload 0, x_push (.int (-6))]) := Snd.cons (snd_aload_n (i := 0) dX6_row_25 rfl) (Snd.cons (snd_bipush (v := -6) dX6_row_26 (by decide)) Snd.nil)
set_option maxHeartbeats 4000000 in
set_option maxRecDepth 100000 in
theorem p_row_6a {l : Launch} {E : XE} (T : TopN) (S P U : SaleN) (O : OutN) (B : BillN) (Q : SeaN) (C : ScrN) (R : PrtN) (tl rf : Nat → Nat) (z : Int) (hS : SaleOK S) (hQ : Q.fd < 2147483648) (rz : -2147483648 ≤ z ∧ z < 2147483648) (h : 99 < z) : MetE l E mX6_row (1) 0 0 [.ref 0, .int (zI (z))] (compW T S P U O B Q C R tl rf) (CP T S P (C.lt) (C.sz) tl (up rf 6 (rf 6 + 1)) (some (.int (-6)))) := by
  refine MetE.of (by decide +kernel) (Nat.le_of_ble_eq_true rfl) ?_
  have hca := hS.1
  have hpw := pow_ca hS
  have hac := ac_lt hS
  
  refine ev_eq (lv' := [(0, .ref 0), (1, .int (zI (z)))]) (st' := []) (w' := compW T S P U O B Q C R tl rf) rfl rfl rfl ?_
  refine ev_b bX6_row_0_1 (lv' := [(0, .ref 0), (1, .int (zI (z)))]) (st' := [.int (zI (z))]) (w2 := compW T S P U O B Q C R tl rf) rfl ?_
  refine ev_if_ge_z (tgt := 11) (by constructor <;> omega) dX6_row_1 (by decide) (fun h1 => ?_) (fun h1 => (by exfalso; omega))
  refine ev_b bX6_row_11_14 (lv' := [(0, .ref 0), (1, .int (zI (z)))]) (st' := [.int (nI (99)), .int (zI (z))]) (w2 := compW T S P U O B Q C R tl rf) rfl ?_
  refine ev_top (y := zI (((99 : Nat) : Int))) (zI_nat _).symm ?_
  refine ev_icmp_gt_z (tgt := 25) (by constructor <;> omega) (by constructor <;> omega) dX6_row_14 (by decide) (fun h14 => ?_) (fun h14 => (by exfalso; omega))
  refine ev_b bX6_row_25_28 (lv' := [(0, .ref 0), (1, .int (zI (z)))]) (st' := [.int (-6), .ref 0]) (w2 := compW T S P U O B Q C R tl rf) rfl ?_
  refine ev_callV (Yc := mX6_refuse) (rng 0 49) dX6_row_28 tw_248 kX6_refuse (m_X6_refuse_6 T S P U O B Q C R tl rf) rfl (st := []) rfl rfl rfl (by decide) (same_hw (compW T S P U O B Q C R tl rf)) (by decide) (Nat.le_of_ble_eq_true rfl) (Nat.le_refl _) (Nat.le_refl _) (fun r w' h => by obtain ⟨-, rfl⟩ := h; exact Nat.le_of_ble_eq_true rfl) ?_
  rintro _ _ ⟨rfl, rfl⟩
  refine ev_eq (lv' := [(0, .ref 0), (1, .int (zI (z)))]) (st' := [.int (-6)]) (w' := compW T S P U O B Q C R tl ((up rf 6 (rf 6 + 1)))) rfl rfl (same_xp (compW T S P U O B Q C R tl rf) (compW T S P U O B Q C R tl ((up rf 6 (rf 6 + 1)))) rfl) ?_
  exact ev_iret dX6_row_31 rfl (Nat.le_refl 49) (Nat.le_refl _) (Nat.le_refl _) ⟨rfl, _, _, _, _, _, _, rfl, hQ, rfl, rfl⟩
theorem bX6_row_17_22 {l : Launch} {E : XE} : Snd l E mX6_row 17 22 (xs [x_aload 0, x_get 7 10, x_push (.int (nI 5))]) := Snd.cons (snd_aload_n (i := 0) dX6_row_17 rfl) (Snd.cons (snd_get (ci := 7) (k := 10) dX6_row_18 rfl inX6 (by decide) tw_217) (Snd.cons (snd_iconst (v := nI 5) dX6_row_21 (by decide)) Snd.nil))
set_option maxHeartbeats 4000000 in
set_option maxRecDepth 100000 in
theorem p_row_6b {l : Launch} {E : XE} (T : TopN) (S P U : SaleN) (O : OutN) (B : BillN) (Q : SeaN) (C : ScrN) (R : PrtN) (tl rf : Nat → Nat) (v : Nat) (hS : SaleOK S) (hQ : Q.fd < 2147483648) (hv : v ≤ 99) (ht : T.tc = 5) : MetE l E mX6_row (1) 0 0 [.ref 0, .int (nI (v))] (compW T S P U O B Q C R tl rf) (CP T S P (C.lt) (C.sz) tl (up rf 6 (rf 6 + 1)) (some (.int (-6)))) := by
  refine MetE.of (by decide +kernel) (Nat.le_of_ble_eq_true rfl) ?_
  have hca := hS.1
  have hpw := pow_ca hS
  have hac := ac_lt hS
  
  refine ev_eq (lv' := [(0, .ref 0), (1, .int (nI (v)))]) (st' := []) (w' := compW T S P U O B Q C R tl rf) rfl rfl rfl ?_
  refine ev_b bX6_row_0_1 (lv' := [(0, .ref 0), (1, .int (nI (v)))]) (st' := [.int (nI (v))]) (w2 := compW T S P U O B Q C R tl rf) rfl ?_
  refine ev_if_ge_n (tgt := 11) (by omega) dX6_row_1 (by decide) (fun h1 => ?_) (fun h1 => (by exfalso; omega))
  refine ev_b bX6_row_11_14 (lv' := [(0, .ref 0), (1, .int (nI (v)))]) (st' := [.int (nI (99)), .int (nI (v))]) (w2 := compW T S P U O B Q C R tl rf) rfl ?_
  refine ev_icmp_gt_n (tgt := 25) (by omega) (by decide) dX6_row_14 (by decide) (fun h14 => (by exfalso; omega)) (fun h14 => ?_)
  refine ev_b bX6_row_17_22 (lv' := [(0, .ref 0), (1, .int (nI (v)))]) (st' := [.int (nI (5)), .int (nI (T.tc))]) (w2 := compW T S P U O B Q C R tl rf) rfl ?_
  refine ev_icmp_lt_n (tgt := 32) (by omega) (by decide) dX6_row_22 (by decide) (fun h22 => (by exfalso; omega)) (fun h22 => ?_)
  refine ev_b bX6_row_25_28 (lv' := [(0, .ref 0), (1, .int (nI (v)))]) (st' := [.int (-6), .ref 0]) (w2 := compW T S P U O B Q C R tl rf) rfl ?_
  refine ev_callV (Yc := mX6_refuse) (rng 0 49) dX6_row_28 tw_248 kX6_refuse (m_X6_refuse_6 T S P U O B Q C R tl rf) rfl (st := []) rfl rfl rfl (by decide) (same_hw (compW T S P U O B Q C R tl rf)) (by decide) (Nat.le_of_ble_eq_true rfl) (Nat.le_refl _) (Nat.le_refl _) (fun r w' h => by obtain ⟨-, rfl⟩ := h; exact Nat.le_of_ble_eq_true rfl) ?_
  rintro _ _ ⟨rfl, rfl⟩
  refine ev_eq (lv' := [(0, .ref 0), (1, .int (nI (v)))]) (st' := [.int (-6)]) (w' := compW T S P U O B Q C R tl ((up rf 6 (rf 6 + 1)))) rfl rfl (same_xp (compW T S P U O B Q C R tl rf) (compW T S P U O B Q C R tl ((up rf 6 (rf 6 + 1)))) rfl) ?_
  exact ev_iret dX6_row_31 rfl (Nat.le_refl 49) (Nat.le_refl _) (Nat.le_refl _) ⟨rfl, _, _, _, _, _, _, rfl, hQ, rfl, rfl⟩
theorem bX6_row_32_41 {l : Launch} {E : XE} : Snd l E mX6_row 32 41 (xs [x_aload 0, x_get 7 8, x_aload 0, x_get 7 10, x_iload 1]) := Snd.cons (snd_aload_n (i := 0) dX6_row_32 rfl) (Snd.cons (snd_get (ci := 7) (k := 8) dX6_row_33 rfl inX6 (by decide) tw_215) (Snd.cons (snd_aload_n (i := 0) dX6_row_36 rfl) (Snd.cons (snd_get (ci := 7) (k := 10) dX6_row_37 rfl inX6 (by decide) tw_217) (Snd.cons (snd_iload_n (i := 1) dX6_row_40 rfl) Snd.nil))))
theorem bX6_row_42_48 {l : Launch} {E : XE} : Snd l E mX6_row 42 48 (xs [x_aload 0, x_dup, x_get 7 10, x_push (.int (nI 1))]) := Snd.cons (snd_aload_n (i := 0) dX6_row_42 rfl) (Snd.cons (snd_dup dX6_row_43) (Snd.cons (snd_get (ci := 7) (k := 10) dX6_row_44 rfl inX6 (by decide) tw_217) (Snd.cons (snd_iconst (v := nI 1) dX6_row_47 (by decide)) Snd.nil)))
theorem bX6_row_49_56 {l : Launch} {E : XE} : Snd l E mX6_row 49 56 (xs [x_puti 7 10, x_aload 0, x_get 7 10]) := Snd.cons (snd_puti (ci := 7) (k := 10) dX6_row_49 rfl inX6 tyX6_ok nmX6 (by decide) tw_217 rfl rfl) (Snd.cons (snd_aload_n (i := 0) dX6_row_52 rfl) (Snd.cons (snd_get (ci := 7) (k := 10) dX6_row_53 rfl inX6 (by decide) tw_217) Snd.nil))
set_option maxHeartbeats 4000000 in
set_option maxRecDepth 100000 in
theorem p_row_ok {l : Launch} {E : XE} (T : TopN) (S P U : SaleN) (O : OutN) (B : BillN) (Q : SeaN) (C : ScrN) (R : PrtN) (tl rf : Nat → Nat) (v : Nat) (hS : SaleOK S) (hQ : Q.fd < 2147483648) (hv : v ≤ 99) (ht : T.tc < 5) : MetE l E mX6_row (0) 0 0 [.ref 0, .int (nI (v))] (compW T S P U O B Q C R tl rf) (CP ((T.tc + 1, T.hp) : TopN) S P (C.lt) (C.sz) (up tl T.tc v) rf (some (.int (nI (T.tc + 1))))) := by
  refine MetE.of (by decide +kernel) (Nat.le_of_ble_eq_true rfl) ?_
  have hca := hS.1
  have hpw := pow_ca hS
  have hac := ac_lt hS
  
  refine ev_eq (lv' := [(0, .ref 0), (1, .int (nI (v)))]) (st' := []) (w' := compW T S P U O B Q C R tl rf) rfl rfl rfl ?_
  refine ev_b bX6_row_0_1 (lv' := [(0, .ref 0), (1, .int (nI (v)))]) (st' := [.int (nI (v))]) (w2 := compW T S P U O B Q C R tl rf) rfl ?_
  refine ev_if_ge_n (tgt := 11) (by omega) dX6_row_1 (by decide) (fun h1 => ?_) (fun h1 => (by exfalso; omega))
  refine ev_b bX6_row_11_14 (lv' := [(0, .ref 0), (1, .int (nI (v)))]) (st' := [.int (nI (99)), .int (nI (v))]) (w2 := compW T S P U O B Q C R tl rf) rfl ?_
  refine ev_icmp_gt_n (tgt := 25) (by omega) (by decide) dX6_row_14 (by decide) (fun h14 => (by exfalso; omega)) (fun h14 => ?_)
  refine ev_b bX6_row_17_22 (lv' := [(0, .ref 0), (1, .int (nI (v)))]) (st' := [.int (nI (5)), .int (nI (T.tc))]) (w2 := compW T S P U O B Q C R tl rf) rfl ?_
  refine ev_icmp_lt_n (tgt := 32) (by omega) (by decide) dX6_row_22 (by decide) (fun h22 => ?_) (fun h22 => (by exfalso; omega))
  refine ev_b bX6_row_32_41 (lv' := [(0, .ref 0), (1, .int (nI (v)))]) (st' := [.int (nI (v)), .int (nI (T.tc)), .ref 47]) (w2 := compW T S P U O B Q C R tl rf) rfl ?_
  refine ev_iast_n (f := tl) dX6_row_41 rfl (by omega) (by decide) ?_
  refine ev_eq (w' := compW T S P U O B Q C R (up tl T.tc v) rf) rfl rfl rfl ?_
  refine ev_b bX6_row_42_48 (lv' := [(0, .ref 0), (1, .int (nI (v)))]) (st' := [.int (nI (1)), .int (nI (T.tc)), .ref 0]) (w2 := compW T S P U O B Q C R (up tl T.tc v) rf) rfl ?_
  refine ev_iadd_n dX6_row_48 ?_
  refine ev_b bX6_row_49_56 (lv' := [(0, .ref 0), (1, .int (nI (v)))]) (st' := [.int (nI (T.tc + 1))]) (w2 := compW ((T.tc + 1, T.hp) : TopN) S P U O B Q C R (up tl T.tc v) rf) rfl ?_
  exact ev_iret dX6_row_56 rfl (Nat.le_refl 49) (Nat.le_refl _) (Nat.le_refl _) ⟨rfl, _, _, _, _, _, _, rfl, hQ, rfl, rfl⟩
theorem bX6_clear_0_11 {l : Launch} {E : XE} : Snd l E mX6_clear 0 11 (xs [x_aload 0, x_get 7 10, x_istore 1, x_aload 0, x_push (.int (nI 0)), x_puti 7 10, x_iload 1]) := Snd.cons (snd_aload_n (i := 0) dX6_clear_0 rfl) (Snd.cons (snd_get (ci := 7) (k := 10) dX6_clear_1 rfl inX6 (by decide) tw_217) (Snd.cons (snd_istore_n (i := 1) dX6_clear_4 rfl (by decide)) (Snd.cons (snd_aload_n (i := 0) dX6_clear_5 rfl) (Snd.cons (snd_iconst (v := nI 0) dX6_clear_6 (by decide)) (Snd.cons (snd_puti (ci := 7) (k := 10) dX6_clear_7 rfl inX6 tyX6_ok nmX6 (by decide) tw_217 rfl rfl) (Snd.cons (snd_iload_n (i := 1) dX6_clear_10 rfl) Snd.nil))))))
set_option maxHeartbeats 4000000 in
set_option maxRecDepth 100000 in
theorem p_clear_ok {l : Launch} {E : XE} (T : TopN) (S P U : SaleN) (O : OutN) (B : BillN) (Q : SeaN) (C : ScrN) (R : PrtN) (tl rf : Nat → Nat)  (hS : SaleOK S) (hQ : Q.fd < 2147483648) (ht : T.tc ≤ 5) : MetE l E mX6_clear (0) 0 0 [.ref 0] (compW T S P U O B Q C R tl rf) (CP ((0, T.hp) : TopN) S P (C.lt) (C.sz) tl rf (some (.int (nI (T.tc))))) := by
  refine MetE.of (by decide +kernel) (Nat.le_of_ble_eq_true rfl) ?_
  have hca := hS.1
  have hpw := pow_ca hS
  have hac := ac_lt hS
  
  refine ev_eq (lv' := [(0, .ref 0)]) (st' := []) (w' := compW T S P U O B Q C R tl rf) rfl rfl rfl ?_
  refine ev_b bX6_clear_0_11 (lv' := [(1, .int (nI (T.tc))), (0, .ref 0)]) (st' := [.int (nI (T.tc))]) (w2 := compW ((0, T.hp) : TopN) S P U O B Q C R tl rf) rfl ?_
  exact ev_iret dX6_clear_11 rfl (Nat.le_refl 49) (Nat.le_refl _) (Nat.le_refl _) ⟨rfl, _, _, _, _, _, _, rfl, hQ, rfl, rfl⟩
theorem bX6_count_0_1 {l : Launch} {E : XE} : Snd l E mX6_count 0 1 (xs [x_iload 1]) := Snd.cons (snd_iload_n (i := 1) dX6_count_0 rfl) Snd.nil
theorem bX6_count_44_51 {l : Launch} {E : XE} : Snd l E mX6_count 44 51 (xs [x_aload 0, x_get 7 0, x_get 4 7]) := Snd.cons (snd_aload_n (i := 0) dX6_count_44 rfl) (Snd.cons (snd_get (ci := 7) (k := 0) dX6_count_45 rfl inX6 (by decide) tw_207) (Snd.cons (snd_getN (ci := 4) (k := 7) dX6_count_48 rfl inX3 (by decide) tn_44) Snd.nil))
set_option maxHeartbeats 4000000 in
set_option maxRecDepth 100000 in
theorem p_count_w0 {l : Launch} {E : XE} (T : TopN) (S P U : SaleN) (O : OutN) (B : BillN) (Q : SeaN) (C : ScrN) (R : PrtN) (tl rf : Nat → Nat)  (hS : SaleOK S) (hQ : Q.fd < 2147483648)  : MetE l E mX6_count (0) 0 0 [.ref 0, .int (nI (0))] (compW T S P U O B Q C R tl rf) (CP T S P (C.lt) (C.sz) tl rf (some (.int (nI (S.ca))))) := by
  refine MetE.of (by decide +kernel) (Nat.le_of_ble_eq_true rfl) ?_
  have hca := hS.1
  have hpw := pow_ca hS
  have hac := ac_lt hS
  
  refine ev_eq (lv' := [(0, .ref 0), (1, .int (nI (0)))]) (st' := []) (w' := compW T S P U O B Q C R tl rf) rfl rfl rfl ?_
  refine ev_b bX6_count_0_1 (lv' := [(0, .ref 0), (1, .int (nI (0)))]) (st' := [.int (nI (0))]) (w2 := compW T S P U O B Q C R tl rf) rfl ?_
  refine ev_tableIn (off := 43) (tgt := 44) dX6_count_1 (by decide) (by decide) (by decide) (by decide) ?_
  refine ev_b bX6_count_44_51 (lv' := [(0, .ref 0), (1, .int (nI (0)))]) (st' := [.int (nI (S.ca))]) (w2 := compW T S P U O B Q C R tl rf) rfl ?_
  exact ev_iret dX6_count_51 rfl (Nat.le_refl 49) (Nat.le_refl _) (Nat.le_refl _) ⟨rfl, _, _, _, _, _, _, rfl, hQ, rfl, rfl⟩
theorem bX6_count_52_59 {l : Launch} {E : XE} : Snd l E mX6_count 52 59 (xs [x_aload 0, x_get 7 0, x_get 4 8]) := Snd.cons (snd_aload_n (i := 0) dX6_count_52 rfl) (Snd.cons (snd_get (ci := 7) (k := 0) dX6_count_53 rfl inX6 (by decide) tw_207) (Snd.cons (snd_getN (ci := 4) (k := 8) dX6_count_56 rfl inX3 (by decide) tn_48) Snd.nil))
set_option maxHeartbeats 4000000 in
set_option maxRecDepth 100000 in
theorem p_count_w1 {l : Launch} {E : XE} (T : TopN) (S P U : SaleN) (O : OutN) (B : BillN) (Q : SeaN) (C : ScrN) (R : PrtN) (tl rf : Nat → Nat)  (hS : SaleOK S) (hQ : Q.fd < 2147483648)  : MetE l E mX6_count (0) 0 0 [.ref 0, .int (nI (1))] (compW T S P U O B Q C R tl rf) (CP T S P (C.lt) (C.sz) tl rf (some (.int (nI (S.ac))))) := by
  refine MetE.of (by decide +kernel) (Nat.le_of_ble_eq_true rfl) ?_
  have hca := hS.1
  have hpw := pow_ca hS
  have hac := ac_lt hS
  
  refine ev_eq (lv' := [(0, .ref 0), (1, .int (nI (1)))]) (st' := []) (w' := compW T S P U O B Q C R tl rf) rfl rfl rfl ?_
  refine ev_b bX6_count_0_1 (lv' := [(0, .ref 0), (1, .int (nI (1)))]) (st' := [.int (nI (1))]) (w2 := compW T S P U O B Q C R tl rf) rfl ?_
  refine ev_tableIn (off := 51) (tgt := 52) dX6_count_1 (by decide) (by decide) (by decide) (by decide) ?_
  refine ev_b bX6_count_52_59 (lv' := [(0, .ref 0), (1, .int (nI (1)))]) (st' := [.int (nI (S.ac))]) (w2 := compW T S P U O B Q C R tl rf) rfl ?_
  exact ev_iret dX6_count_59 rfl (Nat.le_refl 49) (Nat.le_refl _) (Nat.le_refl _) ⟨rfl, _, _, _, _, _, _, rfl, hQ, rfl, rfl⟩
theorem bX6_count_60_65 {l : Launch} {E : XE} : Snd l E mX6_count 60 65 (xs [x_aload 0, x_get 7 0, x_push (.int (nI 0))]) := Snd.cons (snd_aload_n (i := 0) dX6_count_60 rfl) (Snd.cons (snd_get (ci := 7) (k := 0) dX6_count_61 rfl inX6 (by decide) tw_207) (Snd.cons (snd_iconst (v := nI 0) dX6_count_64 (by decide)) Snd.nil))
set_option maxHeartbeats 4000000 in
set_option maxRecDepth 100000 in
theorem p_count_w2 {l : Launch} {E : XE} (T : TopN) (S P U : SaleN) (O : OutN) (B : BillN) (Q : SeaN) (C : ScrN) (R : PrtN) (tl rf : Nat → Nat)  (hS : SaleOK S) (hQ : Q.fd < 2147483648)  : MetE l E mX6_count (2) 0 0 [.ref 0, .int (nI (2))] (compW T S P U O B Q C R tl rf) (CP T S P (C.lt) (C.sz) tl rf (some (.int (nI (rbTo S.rs 0 6))))) := by
  refine MetE.of (by decide +kernel) (Nat.le_of_ble_eq_true rfl) ?_
  have hca := hS.1
  have hpw := pow_ca hS
  have hac := ac_lt hS
  
  refine ev_eq (lv' := [(0, .ref 0), (1, .int (nI (2)))]) (st' := []) (w' := compW T S P U O B Q C R tl rf) rfl rfl rfl ?_
  refine ev_b bX6_count_0_1 (lv' := [(0, .ref 0), (1, .int (nI (2)))]) (st' := [.int (nI (2))]) (w2 := compW T S P U O B Q C R tl rf) rfl ?_
  refine ev_tableIn (off := 59) (tgt := 60) dX6_count_1 (by decide) (by decide) (by decide) (by decide) ?_
  refine ev_b bX6_count_60_65 (lv' := [(0, .ref 0), (1, .int (nI (2)))]) (st' := [.int (nI (0)), .ref 1]) (w2 := compW T S P U O B Q C R tl rf) rfl ?_
  refine ev_callVN (Yc := mX3_reservesBut) [1, 2, 3, 4, 5, 6, 7, 8] dX6_count_65 tn_895 kX3_reservesBut (m_X3_reservesBut S 0 (by decide)) rfl (st := []) rfl rfl rfl (by decide) hw_comp__1 (by decide) (Nat.le_of_ble_eq_true rfl) (Nat.le_refl _) (Nat.le_refl _) (fun r w' h => by obtain ⟨-, rfl⟩ := h; exact Nat.le_of_ble_eq_true rfl) ?_
  rintro _ _ ⟨rfl, rfl⟩
  refine ev_eq (lv' := [(0, .ref 0), (1, .int (nI (2)))]) (st' := [.int (nI (rbTo S.rs 0 6))]) (w' := compW T S P U O B Q C R tl rf) rfl rfl xp_comp__1 ?_
  exact ev_iret dX6_count_68 rfl (Nat.le_refl 49) (Nat.le_refl _) (Nat.le_refl _) ⟨rfl, _, _, _, _, _, _, rfl, hQ, rfl, rfl⟩
theorem bX6_count_69_74 {l : Launch} {E : XE} : Snd l E mX6_count 69 74 (xs [x_aload 0, x_aload 0, x_get 7 0]) := Snd.cons (snd_aload_n (i := 0) dX6_count_69 rfl) (Snd.cons (snd_aload_n (i := 0) dX6_count_70 rfl) (Snd.cons (snd_get (ci := 7) (k := 0) dX6_count_71 rfl inX6 (by decide) tw_207) Snd.nil))
theorem bX6_count_77_81 {l : Launch} {E : XE} : Snd l E mX6_count 77 81 (xs [x_aload 0, x_get 7 4]) := Snd.cons (snd_aload_n (i := 0) dX6_count_77 rfl) (Snd.cons (snd_get (ci := 7) (k := 4) dX6_count_78 rfl inX6 (by decide) tw_211) Snd.nil)
set_option maxHeartbeats 4000000 in
set_option maxRecDepth 100000 in
theorem p_count_w3 {l : Launch} {E : XE} (T : TopN) (S P U : SaleN) (O : OutN) (B : BillN) (Q : SeaN) (C : ScrN) (R : PrtN) (tl rf : Nat → Nat)  (hS : SaleOK S) (hQ : Q.fd < 2147483648)  : MetE l E mX6_count (5) 0 0 [.ref 0, .int (nI (3))] (compW T S P U O B Q C R tl rf) (CP T S P (C.lt) (C.sz) tl rf (some (.int (nI (hapTo (wonZ S) 5))))) := by
  refine MetE.of (by decide +kernel) (Nat.le_of_ble_eq_true rfl) ?_
  have hca := hS.1
  have hpw := pow_ca hS
  have hac := ac_lt hS
  
  refine ev_eq (lv' := [(0, .ref 0), (1, .int (nI (3)))]) (st' := []) (w' := compW T S P U O B Q C R tl rf) rfl rfl rfl ?_
  refine ev_b bX6_count_0_1 (lv' := [(0, .ref 0), (1, .int (nI (3)))]) (st' := [.int (nI (3))]) (w2 := compW T S P U O B Q C R tl rf) rfl ?_
  refine ev_tableIn (off := 68) (tgt := 69) dX6_count_1 (by decide) (by decide) (by decide) (by decide) ?_
  refine ev_b bX6_count_69_74 (lv' := [(0, .ref 0), (1, .int (nI (3)))]) (st' := [.ref 1, .ref 0]) (w2 := compW T S P U O B Q C R tl rf) rfl ?_
  refine ev_callV (Yc := mX6_charge) (rng 0 49) dX6_count_74 tw_588 kX6_charge (m_X6_charge_S T S P U O B Q C R tl rf hS) rfl (st := []) rfl rfl rfl (by decide) (same_hw (compW T S P U O B Q C R tl rf)) (by decide) (Nat.le_of_ble_eq_true rfl) (Nat.le_refl _) (Nat.le_refl _) (fun r w' h => by obtain ⟨-, O', rfl, -⟩ := h; exact Nat.le_refl 49) ?_
  rintro _ _ ⟨rfl, O1, rfl, hK1⟩
  refine ev_eq (lv' := [(0, .ref 0), (1, .int (nI (3)))]) (st' := []) (w' := compW T S P U O1 ((chB S B.li B.gw B.un B.lc)) Q C R tl rf) rfl rfl (same_xp (compW T S P U O B Q C R tl rf) (compW T S P U O1 ((chB S B.li B.gw B.un B.lc)) Q C R tl rf) rfl) ?_
  refine ev_b bX6_count_77_81 (lv' := [(0, .ref 0), (1, .int (nI (3)))]) (st' := [.ref 30]) (w2 := compW T S P U O1 ((chB S B.li B.gw B.un B.lc)) Q C R tl rf) rfl ?_
  refine ev_callVN (Yc := mX0_happy) [30, 31, 32, 33, 34] dX6_count_81 tn_818 kX0_happy (m_X0_happy (chB S B.li B.gw B.un B.lc) (wonZ_b hS)) rfl (st := []) rfl rfl rfl (by decide) hw_comp__30 (by decide) (Nat.le_of_ble_eq_true rfl) (Nat.le_refl _) (Nat.le_refl _) (fun r w' h => by obtain ⟨-, rfl⟩ := h; exact Nat.le_of_ble_eq_true rfl) ?_
  rintro _ _ ⟨rfl, rfl⟩
  refine ev_eq (lv' := [(0, .ref 0), (1, .int (nI (3)))]) (st' := [.int (nI (hapTo (wonZ S) 5))]) (w' := compW T S P U O1 ((chB S B.li B.gw B.un B.lc)) Q C R tl rf) rfl rfl xp_comp__30 ?_
  exact ev_iret dX6_count_84 rfl (Nat.le_refl 49) (Nat.le_refl _) (Nat.le_refl _) ⟨rfl, _, _, _, _, _, _, rfl, hQ, rfl, rfl⟩
theorem bX6_count_85_96 {l : Launch} {E : XE} : Snd l E mX6_count 85 96 (xs [x_aload 0, x_get 7 0, x_aload 0, x_get 7 0, x_get 4 8]) := Snd.cons (snd_aload_n (i := 0) dX6_count_85 rfl) (Snd.cons (snd_get (ci := 7) (k := 0) dX6_count_86 rfl inX6 (by decide) tw_207) (Snd.cons (snd_aload_n (i := 0) dX6_count_89 rfl) (Snd.cons (snd_get (ci := 7) (k := 0) dX6_count_90 rfl inX6 (by decide) tw_207) (Snd.cons (snd_getN (ci := 4) (k := 8) dX6_count_93 rfl inX3 (by decide) tn_48) Snd.nil))))
set_option maxHeartbeats 4000000 in
set_option maxRecDepth 100000 in
theorem p_count_w4 {l : Launch} {E : XE} (T : TopN) (S P U : SaleN) (O : OutN) (B : BillN) (Q : SeaN) (C : ScrN) (R : PrtN) (tl rf : Nat → Nat)  (hS : SaleOK S) (hQ : Q.fd < 2147483648)  : MetE l E mX6_count (1) 0 0 [.ref 0, .int (nI (4))] (compW T S P U O B Q C R tl rf) (CP T S P (C.lt) (C.sz) tl rf (some (.int (nI (prTo S.pr S.ac S.ca))))) := by
  refine MetE.of (by decide +kernel) (Nat.le_of_ble_eq_true rfl) ?_
  have hca := hS.1
  have hpw := pow_ca hS
  have hac := ac_lt hS
  
  refine ev_eq (lv' := [(0, .ref 0), (1, .int (nI (4)))]) (st' := []) (w' := compW T S P U O B Q C R tl rf) rfl rfl rfl ?_
  refine ev_b bX6_count_0_1 (lv' := [(0, .ref 0), (1, .int (nI (4)))]) (st' := [.int (nI (4))]) (w2 := compW T S P U O B Q C R tl rf) rfl ?_
  refine ev_tableIn (off := 84) (tgt := 85) dX6_count_1 (by decide) (by decide) (by decide) (by decide) ?_
  refine ev_b bX6_count_85_96 (lv' := [(0, .ref 0), (1, .int (nI (4)))]) (st' := [.int (nI (S.ac)), .ref 1]) (w2 := compW T S P U O B Q C R tl rf) rfl ?_
  refine ev_callVN (Yc := mX3_pricesOf) [1, 2, 3, 4, 5, 6, 7, 8] dX6_count_96 tn_701 kX3_pricesOf (m_X3_pricesOf S S.ac hS (by omega)) rfl (st := []) rfl rfl rfl (by decide) hw_comp__1 (by decide) (Nat.le_of_ble_eq_true rfl) (Nat.le_refl _) (Nat.le_refl _) (fun r w' h => by obtain ⟨-, rfl⟩ := h; exact Nat.le_of_ble_eq_true rfl) ?_
  rintro _ _ ⟨rfl, rfl⟩
  refine ev_eq (lv' := [(0, .ref 0), (1, .int (nI (4)))]) (st' := [.int (nI (prTo S.pr S.ac S.ca))]) (w' := compW T S P U O B Q C R tl rf) rfl rfl xp_comp__1 ?_
  exact ev_iret dX6_count_99 rfl (Nat.le_refl 49) (Nat.le_refl _) (Nat.le_refl _) ⟨rfl, _, _, _, _, _, _, rfl, hQ, rfl, rfl⟩
theorem bX6_count_100_104 {l : Launch} {E : XE} : Snd l E mX6_count 100 104 (xs [x_aload 0, x_get 7 10]) := Snd.cons (snd_aload_n (i := 0) dX6_count_100 rfl) (Snd.cons (snd_get (ci := 7) (k := 10) dX6_count_101 rfl inX6 (by decide) tw_217) Snd.nil)
set_option maxHeartbeats 4000000 in
set_option maxRecDepth 100000 in
theorem p_count_w5 {l : Launch} {E : XE} (T : TopN) (S P U : SaleN) (O : OutN) (B : BillN) (Q : SeaN) (C : ScrN) (R : PrtN) (tl rf : Nat → Nat)  (hS : SaleOK S) (hQ : Q.fd < 2147483648)  : MetE l E mX6_count (0) 0 0 [.ref 0, .int (nI (5))] (compW T S P U O B Q C R tl rf) (CP T S P (C.lt) (C.sz) tl rf (some (.int (nI (T.tc))))) := by
  refine MetE.of (by decide +kernel) (Nat.le_of_ble_eq_true rfl) ?_
  have hca := hS.1
  have hpw := pow_ca hS
  have hac := ac_lt hS
  
  refine ev_eq (lv' := [(0, .ref 0), (1, .int (nI (5)))]) (st' := []) (w' := compW T S P U O B Q C R tl rf) rfl rfl rfl ?_
  refine ev_b bX6_count_0_1 (lv' := [(0, .ref 0), (1, .int (nI (5)))]) (st' := [.int (nI (5))]) (w2 := compW T S P U O B Q C R tl rf) rfl ?_
  refine ev_tableIn (off := 99) (tgt := 100) dX6_count_1 (by decide) (by decide) (by decide) (by decide) ?_
  refine ev_b bX6_count_100_104 (lv' := [(0, .ref 0), (1, .int (nI (5)))]) (st' := [.int (nI (T.tc))]) (w2 := compW T S P U O B Q C R tl rf) rfl ?_
  exact ev_iret dX6_count_104 rfl (Nat.le_refl 49) (Nat.le_refl _) (Nat.le_refl _) ⟨rfl, _, _, _, _, _, _, rfl, hQ, rfl, rfl⟩
theorem bX6_count_105_112 {l : Launch} {E : XE} : Snd l E mX6_count 105 112 (xs [x_aload 0, x_get 7 6, x_get 5 6]) := Snd.cons (snd_aload_n (i := 0) dX6_count_105 rfl) (Snd.cons (snd_get (ci := 7) (k := 6) dX6_count_106 rfl inX6 (by decide) tw_213) (Snd.cons (snd_getN (ci := 5) (k := 6) dX6_count_109 rfl inX4 (by decide) tn_167) Snd.nil))
set_option maxHeartbeats 4000000 in
set_option maxRecDepth 100000 in
theorem p_count_w6 {l : Launch} {E : XE} (T : TopN) (S P U : SaleN) (O : OutN) (B : BillN) (Q : SeaN) (C : ScrN) (R : PrtN) (tl rf : Nat → Nat)  (hS : SaleOK S) (hQ : Q.fd < 2147483648)  : MetE l E mX6_count (0) 0 0 [.ref 0, .int (nI (6))] (compW T S P U O B Q C R tl rf) (CP T S P (C.lt) (C.sz) tl rf (some (.int (nI (C.sz))))) := by
  refine MetE.of (by decide +kernel) (Nat.le_of_ble_eq_true rfl) ?_
  have hca := hS.1
  have hpw := pow_ca hS
  have hac := ac_lt hS
  
  refine ev_eq (lv' := [(0, .ref 0), (1, .int (nI (6)))]) (st' := []) (w' := compW T S P U O B Q C R tl rf) rfl rfl rfl ?_
  refine ev_b bX6_count_0_1 (lv' := [(0, .ref 0), (1, .int (nI (6)))]) (st' := [.int (nI (6))]) (w2 := compW T S P U O B Q C R tl rf) rfl ?_
  refine ev_tableIn (off := 104) (tgt := 105) dX6_count_1 (by decide) (by decide) (by decide) (by decide) ?_
  refine ev_b bX6_count_105_112 (lv' := [(0, .ref 0), (1, .int (nI (6)))]) (st' := [.int (nI (C.sz))]) (w2 := compW T S P U O B Q C R tl rf) rfl ?_
  exact ev_iret dX6_count_112 rfl (Nat.le_refl 49) (Nat.le_refl _) (Nat.le_refl _) ⟨rfl, _, _, _, _, _, _, rfl, hQ, rfl, rfl⟩
