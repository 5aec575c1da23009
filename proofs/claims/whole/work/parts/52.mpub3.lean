theorem bX7_item_0_3 {l : Launch} {E : XE} : Snd l E mX7_item 0 3 (xs [x_iload 1, x_push (.int (nI 0)), x_push (.int (nI 5))]) := Snd.cons (snd_iload_n (i := 1) dX7_item_0 rfl) (Snd.cons (snd_iconst (v := nI 0) dX7_item_1 (by decide)) (Snd.cons (snd_iconst (v := nI 5) dX7_item_2 (by decide)) Snd.nil))
theorem bX7_item_9_11 {l : Launch} {E : XE} : Snd l E mX7_item 9 11 (xs [x_aload 0, x_push (.int (-1))]) := Snd.cons (snd_aload_n (i := 0) dX7_item_9 rfl) (Snd.cons (snd_iconst (v := -1) dX7_item_10 (by decide)) Snd.nil)
set_option maxHeartbeats 4000000 in
set_option maxRecDepth 100000 in
theorem q_item_1 {l : Launch} {E : XE} (S : SaleN) (X : ModN) (K : Option (Nat → Nat)) (z1 z2 : Int) (hS : SaleOK S) (hM : MOK S X) (rz1 : -2147483648 ≤ z1 ∧ z1 < 2147483648) (rz2 : -2147483648 ≤ z2 ∧ z2 < 2147483648) (h : ¬ (0 ≤ z1 ∧ z1 < 6)) : MetE l E mX7_item (1) 0 0 [.ref 0, .int (zI (z1)), .int (zI (z2))] (modW 0 S X K) (MP S K (X.lt) (X.ty) (X.rr) (X.rn) ((up X.rf 1 (X.rf 1 + 1))) (some (.int (-1)))) := by
  refine MetE.of (by decide +kernel) (Nat.le_of_ble_eq_true rfl) ?_
  have hca := hS.1
  have hpw := pow_ca hS
  have hac := ac_lt hS
  have hshl := shl_le hS
  
  refine ev_eq (lv' := [(0, .ref 0), (1, .int (zI (z1))), (2, .int (zI (z2)))]) (st' := []) (w' := modW 0 S X K) rfl rfl rfl ?_
  refine ev_b bX7_item_0_3 (lv' := [(0, .ref 0), (1, .int (zI (z1))), (2, .int (zI (z2)))]) (st' := [.int (nI (5)), .int (nI (0)), .int (zI (z1))]) (w2 := modW 0 S X K) rfl ?_
  refine ev_callS (Yc := mX7_isIn) [] dX7_item_3 tw_1036 kX7_isIn (m_X7_isIn_z z1 0 5 rz1 (by decide) (by decide)) rfl (st := []) rfl (by decide) rfl (by decide) (Nat.le_of_ble_eq_true rfl) (Nat.le_refl _) (Nat.le_refl _) (fun r w' h => by obtain ⟨-, rfl⟩ := h; exact Nat.le_of_ble_eq_true rfl) ?_
  rintro _ _ ⟨rfl, rfl⟩
  refine ev_eq (lv' := [(0, .ref 0), (1, .int (zI (z1))), (2, .int (zI (z2)))]) (st' := [.int (nI (b01 (((0 : Nat) : Int) ≤ z1 ∧ z1 ≤ ((5 : Nat) : Int))))]) (w' := modW 0 S X K) rfl rfl rfl ?_
  refine ev_ifne_b (tgt := 15) dX7_item_6 (by decide) (fun h6 => (by exfalso; omega)) (fun h6 => ?_)
  refine ev_b bX7_item_9_11 (lv' := [(0, .ref 0), (1, .int (zI (z1))), (2, .int (zI (z2)))]) (st' := [.int (-1), .ref 0]) (w2 := modW 0 S X K) rfl ?_
  refine ev_callM (Yc := mX7_refuses) (st := []) dX7_item_11 tw_1012 kX7_refuses (m_X7_refuses_1 S X K) rfl rfl rfl rfl (by decide) (Nat.le_of_ble_eq_true rfl) (Nat.le_refl _) (Nat.le_refl _) (fun r w' h => by obtain ⟨-, rfl⟩ := h; exact mod_eq) ?_
  rintro _ _ ⟨rfl, rfl⟩
  refine ev_eq (lv' := [(0, .ref 0), (1, .int (zI (z1))), (2, .int (zI (z2)))]) (st' := [.int (-1)]) (w' := modW 0 S (((up X.rf 1 (X.rf 1 + 1)), X.wo, X.ta, X.ow, X.sl, X.sh, X.lt, X.ty, X.pl, X.nu, X.od, X.tt, X.oo, X.on, X.wn, X.pd, X.li, X.rr, X.rn, X.dr) : ModN) K) rfl rfl rfl ?_
  exact ev_iret dX7_item_14 rfl mod_le (Nat.le_refl _) (Nat.le_refl _) ⟨rfl, _, rfl, hM, rfl, rfl, rfl, rfl, rfl⟩
theorem bX7_item_15_16 {l : Launch} {E : XE} : Snd l E mX7_item 15 16 (xs [x_aload 0]) := Snd.cons (snd_aload_n (i := 0) dX7_item_15 rfl) Snd.nil
theorem bX7_item_19_21 {l : Launch} {E : XE} : Snd l E mX7_item 19 21 (xs [x_istore 3, x_iload 2]) := Snd.cons (snd_istore_n (i := 3) dX7_item_19 rfl (by decide)) (Snd.cons (snd_iload_n (i := 2) dX7_item_20 rfl) Snd.nil)
theorem bX7_item_179_182 {l : Launch} {E : XE} : Snd l E mX7_item 179 182 (xs [x_aload 0, x_push (.int (-2))]) := Snd.cons (snd_aload_n (i := 0) dX7_item_179 rfl) (Snd.cons (snd_bipush (v := -2) dX7_item_180 (by decide)) Snd.nil)
set_option maxHeartbeats 4000000 in
set_option maxRecDepth 100000 in
theorem q_item_2 {l : Launch} {E : XE} (S : SaleN) (X : ModN) (K : Option (Nat → Nat)) (i : Nat) (z2 : Int) (hS : SaleOK S) (hM : MOK S X) (rz2 : -2147483648 ≤ z2 ∧ z2 < 2147483648) (hi : i < 6) (h : z2 < 0 ∨ 3 < z2) : MetE l E mX7_item (6) 0 0 [.ref 0, .int (nI (i)), .int (zI (z2))] (modW 0 S X K) (MP S K (X.lt) (X.ty) (X.rr) (X.rn) ((up X.rf 2 (X.rf 2 + 1))) (some (.int (-2)))) := by
  refine MetE.of (by decide +kernel) (Nat.le_of_ble_eq_true rfl) ?_
  have hca := hS.1
  have hpw := pow_ca hS
  have hac := ac_lt hS
  have hshl := shl_le hS
  
  refine ev_eq (lv' := [(0, .ref 0), (1, .int (nI (i))), (2, .int (zI (z2)))]) (st' := []) (w' := modW 0 S X K) rfl rfl rfl ?_
  refine ev_b bX7_item_0_3 (lv' := [(0, .ref 0), (1, .int (nI (i))), (2, .int (zI (z2)))]) (st' := [.int (nI (5)), .int (nI (0)), .int (nI (i))]) (w2 := modW 0 S X K) rfl ?_
  refine ev_callS (Yc := mX7_isIn) [] dX7_item_3 tw_1036 kX7_isIn (m_X7_isIn_n i 0 5 (by omega) (by decide) (by decide)) rfl (st := []) rfl (by decide) rfl (by decide) (Nat.le_of_ble_eq_true rfl) (Nat.le_refl _) (Nat.le_refl _) (fun r w' h => by obtain ⟨-, rfl⟩ := h; exact Nat.le_of_ble_eq_true rfl) ?_
  rintro _ _ ⟨rfl, rfl⟩
  refine ev_eq (lv' := [(0, .ref 0), (1, .int (nI (i))), (2, .int (zI (z2)))]) (st' := [.int (nI (b01 (0 ≤ i ∧ i ≤ 5)))]) (w' := modW 0 S X K) rfl rfl rfl ?_
  refine ev_ifne_b (tgt := 15) dX7_item_6 (by decide) (fun h6 => ?_) (fun h6 => (by exfalso; omega))
  refine ev_b bX7_item_15_16 (lv' := [(0, .ref 0), (1, .int (nI (i))), (2, .int (zI (z2)))]) (st' := [.ref 0]) (w2 := modW 0 S X K) rfl ?_
  refine ev_callM (Yc := mX7_winnersNow) (st := []) dX7_item_16 tw_1104 kX7_winnersNow (m_X7_winnersNow_g S S.kd S.fg X K hS (kf_self hM.1) hM.2) rfl rfl rfl rfl (by decide) (Nat.le_of_ble_eq_true rfl) (Nat.le_refl _) (Nat.le_refl _) (fun r w' h => by obtain ⟨-, wo, ta, ow, rfl, -⟩ := h; exact mod_eq) ?_
  rintro _ _ ⟨rfl, wo, ta, ow, rfl, hT⟩
  refine ev_eq (lv' := [(0, .ref 0), (1, .int (nI (i))), (2, .int (zI (z2)))]) (st' := [.int (nI (winB S 1023))]) (w' := modW 0 S ((X.rf, wo, ta, ow, 0, X.sh, X.lt, X.ty, X.pl, X.nu, X.od, X.tt, X.oo, X.on, X.wn, X.pd, X.li, X.rr, X.rn, X.dr) : ModN) K) rfl rfl rfl ?_
  have hwb := winB_lt hS 1023
  refine ev_b bX7_item_19_21 (lv' := [(3, .int (nI (winB S 1023))), (0, .ref 0), (1, .int (nI (i))), (2, .int (zI (z2)))]) (st' := [.int (zI (z2))]) (w2 := modW 0 S ((X.rf, wo, ta, ow, 0, X.sh, X.lt, X.ty, X.pl, X.nu, X.od, X.tt, X.oo, X.on, X.wn, X.pd, X.li, X.rr, X.rn, X.dr) : ModN) K) rfl ?_
  refine ev_tableOut (tgt := 179) dX7_item_21 (by rw [zI_toInt (by omega) (by omega)]; omega) (by decide) ?_
  refine ev_b bX7_item_179_182 (lv' := [(3, .int (nI (winB S 1023))), (0, .ref 0), (1, .int (nI (i))), (2, .int (zI (z2)))]) (st' := [.int (-2), .ref 0]) (w2 := modW 0 S ((X.rf, wo, ta, ow, 0, X.sh, X.lt, X.ty, X.pl, X.nu, X.od, X.tt, X.oo, X.on, X.wn, X.pd, X.li, X.rr, X.rn, X.dr) : ModN) K) rfl ?_
  refine ev_callM (Yc := mX7_refuses) (st := []) dX7_item_182 tw_1012 kX7_refuses (m_X7_refuses_2 S ((X.rf, wo, ta, ow, 0, X.sh, X.lt, X.ty, X.pl, X.nu, X.od, X.tt, X.oo, X.on, X.wn, X.pd, X.li, X.rr, X.rn, X.dr) : ModN) K) rfl rfl rfl rfl (by decide) (Nat.le_of_ble_eq_true rfl) (Nat.le_refl _) (Nat.le_refl _) (fun r w' h => by obtain ⟨-, rfl⟩ := h; exact mod_eq) ?_
  rintro _ _ ⟨rfl, rfl⟩
  refine ev_eq (lv' := [(3, .int (nI (winB S 1023))), (0, .ref 0), (1, .int (nI (i))), (2, .int (zI (z2)))]) (st' := [.int (-2)]) (w' := modW 0 S (((up X.rf 2 (X.rf 2 + 1)), wo, ta, ow, 0, X.sh, X.lt, X.ty, X.pl, X.nu, X.od, X.tt, X.oo, X.on, X.wn, X.pd, X.li, X.rr, X.rn, X.dr) : ModN) K) rfl rfl rfl ?_
  exact ev_iret dX7_item_185 rfl mod_le (Nat.le_refl _) (Nat.le_refl _) ⟨rfl, _, rfl, mok_fresh hM.1 rfl hT, rfl, rfl, rfl, rfl, rfl⟩
theorem bX7_item_52_57 {l : Launch} {E : XE} : Snd l E mX7_item 52 57 (xs [x_aload 0, x_get 8 0, x_iload 1]) := Snd.cons (snd_aload_n (i := 0) dX7_item_52 rfl) (Snd.cons (snd_get (ci := 8) (k := 0) dX7_item_53 rfl inX7 (by decide) tw_914) (Snd.cons (snd_iload_n (i := 1) dX7_item_56 rfl) Snd.nil))
set_option maxHeartbeats 4000000 in
set_option maxRecDepth 100000 in
theorem q_item_w0 {l : Launch} {E : XE} (S : SaleN) (X : ModN) (K : Option (Nat → Nat)) (i : Nat) (hS : SaleOK S) (hM : MOK S X) (hi : i < 6) : MetE l E mX7_item (6) 0 0 [.ref 0, .int (nI (i)), .int (nI (0))] (modW 0 S X K) (MP S K (X.lt) (X.ty) (X.rr) (X.rn) (X.rf) (some (.int (nI (S.rs i))))) := by
  refine MetE.of (by decide +kernel) (Nat.le_of_ble_eq_true rfl) ?_
  have hca := hS.1
  have hpw := pow_ca hS
  have hac := ac_lt hS
  have hshl := shl_le hS
  
  refine ev_eq (lv' := [(0, .ref 0), (1, .int (nI (i))), (2, .int (nI (0)))]) (st' := []) (w' := modW 0 S X K) rfl rfl rfl ?_
  refine ev_b bX7_item_0_3 (lv' := [(0, .ref 0), (1, .int (nI (i))), (2, .int (nI (0)))]) (st' := [.int (nI (5)), .int (nI (0)), .int (nI (i))]) (w2 := modW 0 S X K) rfl ?_
  refine ev_callS (Yc := mX7_isIn) [] dX7_item_3 tw_1036 kX7_isIn (m_X7_isIn_n i 0 5 (by omega) (by decide) (by decide)) rfl (st := []) rfl (by decide) rfl (by decide) (Nat.le_of_ble_eq_true rfl) (Nat.le_refl _) (Nat.le_refl _) (fun r w' h => by obtain ⟨-, rfl⟩ := h; exact Nat.le_of_ble_eq_true rfl) ?_
  rintro _ _ ⟨rfl, rfl⟩
  refine ev_eq (lv' := [(0, .ref 0), (1, .int (nI (i))), (2, .int (nI (0)))]) (st' := [.int (nI (b01 (0 ≤ i ∧ i ≤ 5)))]) (w' := modW 0 S X K) rfl rfl rfl ?_
  refine ev_ifne_b (tgt := 15) dX7_item_6 (by decide) (fun h6 => ?_) (fun h6 => (by exfalso; omega))
  refine ev_b bX7_item_15_16 (lv' := [(0, .ref 0), (1, .int (nI (i))), (2, .int (nI (0)))]) (st' := [.ref 0]) (w2 := modW 0 S X K) rfl ?_
  refine ev_callM (Yc := mX7_winnersNow) (st := []) dX7_item_16 tw_1104 kX7_winnersNow (m_X7_winnersNow_g S S.kd S.fg X K hS (kf_self hM.1) hM.2) rfl rfl rfl rfl (by decide) (Nat.le_of_ble_eq_true rfl) (Nat.le_refl _) (Nat.le_refl _) (fun r w' h => by obtain ⟨-, wo, ta, ow, rfl, -⟩ := h; exact mod_eq) ?_
  rintro _ _ ⟨rfl, wo, ta, ow, rfl, hT⟩
  refine ev_eq (lv' := [(0, .ref 0), (1, .int (nI (i))), (2, .int (nI (0)))]) (st' := [.int (nI (winB S 1023))]) (w' := modW 0 S ((X.rf, wo, ta, ow, 0, X.sh, X.lt, X.ty, X.pl, X.nu, X.od, X.tt, X.oo, X.on, X.wn, X.pd, X.li, X.rr, X.rn, X.dr) : ModN) K) rfl rfl rfl ?_
  have hwb := winB_lt hS 1023
  refine ev_b bX7_item_19_21 (lv' := [(3, .int (nI (winB S 1023))), (0, .ref 0), (1, .int (nI (i))), (2, .int (nI (0)))]) (st' := [.int (nI (0))]) (w2 := modW 0 S ((X.rf, wo, ta, ow, 0, X.sh, X.lt, X.ty, X.pl, X.nu, X.od, X.tt, X.oo, X.on, X.wn, X.pd, X.li, X.rr, X.rn, X.dr) : ModN) K) rfl ?_
  refine ev_tableIn (off := 31) (tgt := 52) dX7_item_21 (by decide) (by decide) (by decide) (by decide) ?_
  refine ev_b bX7_item_52_57 (lv' := [(3, .int (nI (winB S 1023))), (0, .ref 0), (1, .int (nI (i))), (2, .int (nI (0)))]) (st' := [.int (nI (i)), .ref 1]) (w2 := modW 0 S ((X.rf, wo, ta, ow, 0, X.sh, X.lt, X.ty, X.pl, X.nu, X.od, X.tt, X.oo, X.on, X.wn, X.pd, X.li, X.rr, X.rn, X.dr) : ModN) K) rfl ?_
  refine ev_iald_n (f := S.rs) dX7_item_57 rfl (by omega) (by decide) ?_
  exact ev_iret dX7_item_58 rfl mod_le (Nat.le_refl _) (Nat.le_refl _) ⟨rfl, _, rfl, mok_fresh hM.1 rfl hT, rfl, rfl, rfl, rfl, rfl⟩
theorem hd_bit {st : Nat → Nat} {items : Nat} : ∀ n k, (hdTo st items n).testBit k = true ↔ k < n ∧ st k &&& items ≠ 0
  | 0, k => by
    show Nat.testBit 0 k = true ↔ _
    rw [Nat.zero_testBit]
    constructor
    · intro h; cases h
    · intro h; exact absurd h.1 (Nat.not_lt_zero k)
  | n + 1, k => by
    rw [hdTo_s]
    have ih := hd_bit (st := st) (items := items) n k
    split
    · rename_i hc
      rw [tb_or, Bool.or_eq_true, decide_eq_true_eq, ih]
      constructor
      · rintro (h | rfl)
        · exact ⟨by omega, h.2⟩
        · exact ⟨by omega, hc⟩
      · rintro ⟨h1, h2⟩
        by_cases e : n = k
        · exact Or.inr e
        · exact Or.inl ⟨by omega, h2⟩
    · rename_i hc
      rw [ih]
      constructor
      · rintro ⟨h1, h2⟩; exact ⟨by omega, h2⟩
      · rintro ⟨h1, h2⟩
        by_cases e : n = k
        · subst e; exact absurd h2 hc
        · exact ⟨by omega, h2⟩
theorem bit_and (x i : Nat) : x &&& 1 <<< i ≠ 0 ↔ x.testBit i = true := and_bit x i
/-- the bids that have an item and are on, one by one -/
theorem holds_bit {S : SaleN} {i k : Nat} (hk : k < S.ca) : (hdTo S.st (1 <<< i) S.ca &&& S.ac).testBit k = true ↔ (S.ac.testBit k = true ∧ (S.st k).testBit i = true) := by
  rw [Nat.testBit_and, Bool.and_eq_true, hd_bit, bit_and]
  constructor
  · exact fun h => ⟨h.2, h.1.2⟩
  · exact fun h => ⟨⟨hk, h.2⟩, h.1⟩
theorem firstZ_no {x : Nat} : ∀ n k, (∀ j, k ≤ j → j < k + n → ¬ x.testBit j = true) → firstZ x n k = -9
  | 0, _, _ => rfl
  | n + 1, k, h => by
    unfold firstZ
    rw [if_neg (h k (Nat.le_refl _) (by omega))]
    exact firstZ_no n (k + 1) (fun j h1 h2 => h j (by omega) (by omega))
theorem firstZ_at {x m : Nat} : ∀ n k, k ≤ m → m < k + n → (∀ j, k ≤ j → j < m → ¬ x.testBit j = true) → x.testBit m = true → firstZ x n k = ((m : Nat) : Int)
  | 0, k, h1, h2, _, _ => absurd h1 (by omega)
  | n + 1, k, h1, h2, h3, h4 => by
    unfold firstZ
    by_cases e : k = m
    · subst e
      rw [if_pos h4]
    · rw [if_neg (h3 k (Nat.le_refl _) (by omega))]
      exact firstZ_at n (k + 1) (by omega) (by omega) (fun j h5 h6 => h3 j (by omega) h6) h4
theorem win_tb {S : SaleN} (hS : SaleOK S) {sm k : Nat} (h : (winB S sm).testBit k = true) : S.ac.testBit k = true ∧ k < S.ca := by
  have h1 := andn_0.mp (out_sub (win_spec hS sm).1) k h
  refine ⟨h1, ?_⟩
  by_cases hc : k < S.ca
  · exact hc
  · rw [tb_lt hS.2.1 (by omega)] at h1
    cases h1
theorem hw_bit {S : SaleN} (hS : SaleOK S) {i k : Nat} : ((hdTo S.st (1 <<< i) S.ca &&& S.ac) &&& winB S 1023).testBit k = true ↔ ((winB S 1023).testBit k = true ∧ (S.st k).testBit i = true) := by
  rw [Nat.testBit_and, Bool.and_eq_true]
  constructor
  · rintro ⟨h1, h2⟩
    exact ⟨h2, ((holds_bit (win_tb hS h2).2).mp h1).2⟩
  · rintro ⟨h1, h2⟩
    exact ⟨(holds_bit (win_tb hS h1).2).mpr ⟨(win_tb hS h1).1, h2⟩, h1⟩
theorem popTo_top {x b : Nat} (hx : x < 2 ^ b) : ∀ n, b ≤ n → popTo x n = popTo x b
  | 0, h => by
    have : b = 0 := by omega
    subst this; rfl
  | n + 1, h => by
    by_cases hb : b = n + 1
    · subst hb; rfl
    · rw [popTo_s, tb_lt hx (show b ≤ n by omega), popTo_top hx n (by omega)]
      rfl
theorem bX7_item_59_62 {l : Launch} {E : XE} : Snd l E mX7_item 59 62 (xs [x_push (.int (nI 0)), x_istore 4]) := Snd.cons (snd_iconst (v := nI 0) dX7_item_59 (by decide)) (Snd.cons (snd_istore dX7_item_60 (by decide)) Snd.nil)
theorem bX7_item_62_68 {l : Launch} {E : XE} : Snd l E mX7_item 62 68 (xs [x_iload 4, x_aload 0, x_get 8 6]) := Snd.cons (snd_iload dX7_item_62) (Snd.cons (snd_aload_n (i := 0) dX7_item_64 rfl) (Snd.cons (snd_get (ci := 8) (k := 6) dX7_item_65 rfl inX7 (by decide) tw_920) Snd.nil))
theorem bX7_item_103_105 {l : Launch} {E : XE} : Snd l E mX7_item 103 105 (xs [x_push (.int (-9))]) := Snd.cons (snd_bipush (v := -9) dX7_item_103 (by decide)) Snd.nil
theorem bX7_item_71_74 {l : Launch} {E : XE} : Snd l E mX7_item 71 74 (xs [x_iload 3, x_iload 4]) := Snd.cons (snd_iload_n (i := 3) dX7_item_71 rfl) (Snd.cons (snd_iload dX7_item_72) Snd.nil)
theorem bX7_item_100_62 {l : Launch} {E : XE} : Snd l E mX7_item 100 62 (xs [x_id]) := Snd.cons (snd_goto (tgt := 62) dX7_item_100 (by decide)) Snd.nil
theorem bX7_item_80_86 {l : Launch} {E : XE} : Snd l E mX7_item 80 86 (xs [x_aload 0, x_get 8 4, x_iload 4]) := Snd.cons (snd_aload_n (i := 0) dX7_item_80 rfl) (Snd.cons (snd_get (ci := 8) (k := 4) dX7_item_81 rfl inX7 (by decide) tw_918) (Snd.cons (snd_iload dX7_item_84) Snd.nil))
theorem bX7_item_87_88 {l : Launch} {E : XE} : Snd l E mX7_item 87 88 (xs [x_iload 1]) := Snd.cons (snd_iload_n (i := 1) dX7_item_87 rfl) Snd.nil
theorem bX7_item_94_96 {l : Launch} {E : XE} : Snd l E mX7_item 94 96 (xs [x_iload 4]) := Snd.cons (snd_iload dX7_item_94) Snd.nil
set_option maxHeartbeats 4000000 in
set_option maxRecDepth 100000 in
theorem q_item_w1 {l : Launch} {E : XE} (S : SaleN) (X : ModN) (K : Option (Nat → Nat)) (i : Nat) (hS : SaleOK S) (hM : MOK S X) (hi : i < 6) : MetE l E mX7_item (6) 0 0 [.ref 0, .int (nI (i)), .int (nI (1))] (modW 0 S X K) (MP S K (X.lt) (X.ty) (X.rr) (X.rn) (X.rf) (some (.int (zI (firstZ ((hdTo S.st (1 <<< i) S.ca &&& S.ac) &&& winB S 1023) 10 0))))) := by
  refine MetE.of (by decide +kernel) (Nat.le_of_ble_eq_true rfl) ?_
  have hca := hS.1
  have hpw := pow_ca hS
  have hac := ac_lt hS
  have hshl := shl_le hS
  
  refine ev_eq (lv' := [(0, .ref 0), (1, .int (nI (i))), (2, .int (nI (1)))]) (st' := []) (w' := modW 0 S X K) rfl rfl rfl ?_
  refine ev_b bX7_item_0_3 (lv' := [(0, .ref 0), (1, .int (nI (i))), (2, .int (nI (1)))]) (st' := [.int (nI (5)), .int (nI (0)), .int (nI (i))]) (w2 := modW 0 S X K) rfl ?_
  refine ev_callS (Yc := mX7_isIn) [] dX7_item_3 tw_1036 kX7_isIn (m_X7_isIn_n i 0 5 (by omega) (by decide) (by decide)) rfl (st := []) rfl (by decide) rfl (by decide) (Nat.le_of_ble_eq_true rfl) (Nat.le_refl _) (Nat.le_refl _) (fun r w' h => by obtain ⟨-, rfl⟩ := h; exact Nat.le_of_ble_eq_true rfl) ?_
  rintro _ _ ⟨rfl, rfl⟩
  refine ev_eq (lv' := [(0, .ref 0), (1, .int (nI (i))), (2, .int (nI (1)))]) (st' := [.int (nI (b01 (0 ≤ i ∧ i ≤ 5)))]) (w' := modW 0 S X K) rfl rfl rfl ?_
  refine ev_ifne_b (tgt := 15) dX7_item_6 (by decide) (fun h6 => ?_) (fun h6 => (by exfalso; omega))
  refine ev_b bX7_item_15_16 (lv' := [(0, .ref 0), (1, .int (nI (i))), (2, .int (nI (1)))]) (st' := [.ref 0]) (w2 := modW 0 S X K) rfl ?_
  refine ev_callM (Yc := mX7_winnersNow) (st := []) dX7_item_16 tw_1104 kX7_winnersNow (m_X7_winnersNow_g S S.kd S.fg X K hS (kf_self hM.1) hM.2) rfl rfl rfl rfl (by decide) (Nat.le_of_ble_eq_true rfl) (Nat.le_refl _) (Nat.le_refl _) (fun r w' h => by obtain ⟨-, wo, ta, ow, rfl, -⟩ := h; exact mod_eq) ?_
  rintro _ _ ⟨rfl, wo, ta, ow, rfl, hT⟩
  refine ev_eq (lv' := [(0, .ref 0), (1, .int (nI (i))), (2, .int (nI (1)))]) (st' := [.int (nI (winB S 1023))]) (w' := modW 0 S ((X.rf, wo, ta, ow, 0, X.sh, X.lt, X.ty, X.pl, X.nu, X.od, X.tt, X.oo, X.on, X.wn, X.pd, X.li, X.rr, X.rn, X.dr) : ModN) K) rfl rfl rfl ?_
  have hwb := winB_lt hS 1023
  refine ev_b bX7_item_19_21 (lv' := [(3, .int (nI (winB S 1023))), (0, .ref 0), (1, .int (nI (i))), (2, .int (nI (1)))]) (st' := [.int (nI (1))]) (w2 := modW 0 S ((X.rf, wo, ta, ow, 0, X.sh, X.lt, X.ty, X.pl, X.nu, X.od, X.tt, X.oo, X.on, X.wn, X.pd, X.li, X.rr, X.rn, X.dr) : ModN) K) rfl ?_
  refine ev_tableIn (off := 38) (tgt := 59) dX7_item_21 (by decide) (by decide) (by decide) (by decide) ?_
  refine ev_b bX7_item_59_62 (lv' := [(4, .int (nI (0))), (3, .int (nI (winB S 1023))), (0, .ref 0), (1, .int (nI (i))), (2, .int (nI (1)))]) (st' := []) (w2 := modW 0 S ((X.rf, wo, ta, ow, 0, X.sh, X.lt, X.ty, X.pl, X.nu, X.od, X.tt, X.oo, X.on, X.wn, X.pd, X.li, X.rr, X.rn, X.dr) : ModN) K) rfl ?_
  have L62 : ∀ (j_ k : Nat), k + j_ = S.ca → (∀ j, j < k → ¬ ((hdTo S.st (1 <<< i) S.ca &&& S.ac) &&& winB S 1023).testBit j = true) → Ev l E mX7_item (6) 0 0 (modW 0 S X K) (MP S K (X.lt) (X.ty) (X.rr) (X.rn) (X.rf) (some (.int (zI (firstZ ((hdTo S.st (1 <<< i) S.ca &&& S.ac) &&& winB S 1023) 10 0))))) 0 0 62 [(4, .int (nI (k))), (0, .ref 0), (1, .int (nI (i))), (2, .int (nI (1))), (3, .int (nI (winB S 1023)))] [] (modW 0 S ((X.rf, wo, ta, ow, 0, X.sh, X.lt, X.ty, X.pl, X.nu, X.od, X.tt, X.oo, X.on, X.wn, X.pd, X.li, X.rr, X.rn, X.dr) : ModN) K) := by
    intro j_
    induction j_ with
    | zero =>
      intro k hk62  hinv62
      replace hk62 : k = S.ca := hk62
      refine ev_b bX7_item_62_68 (lv' := [(4, .int (nI (k))), (0, .ref 0), (1, .int (nI (i))), (2, .int (nI (1))), (3, .int (nI (winB S 1023)))]) (st' := [.int (nI (S.ca)), .int (nI (k))]) (w2 := modW 0 S ((X.rf, wo, ta, ow, 0, X.sh, X.lt, X.ty, X.pl, X.nu, X.od, X.tt, X.oo, X.on, X.wn, X.pd, X.li, X.rr, X.rn, X.dr) : ModN) K) rfl ?_
      refine ev_icmp_ge_n (tgt := 103) (by omega) (by omega) dX7_item_68 (by decide) (fun h68 => ?_) (fun h68 => (by exfalso; omega))
      refine ev_b bX7_item_103_105 (lv' := [(4, .int (nI (k))), (0, .ref 0), (1, .int (nI (i))), (2, .int (nI (1))), (3, .int (nI (winB S 1023)))]) (st' := [.int (-9)]) (w2 := modW 0 S ((X.rf, wo, ta, ow, 0, X.sh, X.lt, X.ty, X.pl, X.nu, X.od, X.tt, X.oo, X.on, X.wn, X.pd, X.li, X.rr, X.rn, X.dr) : ModN) K) rfl ?_
      exact ev_iret dX7_item_105 rfl mod_le (Nat.le_refl _) (Nat.le_refl _) ⟨by first | (rw [firstZ_at 10 0 (Nat.zero_le _) (by omega) (fun j _ hj => hinv62 j hj) ((hw_bit hS).mpr ⟨h77, h91⟩), zI_nat]) | (rw [firstZ_no 10 0 (fun j _ hj z => by have := (win_tb hS ((hw_bit hS).mp z).1).2; exact hinv62 j (by omega) z)]; exact congrArg (fun v => some (Value.int v)) (show (-9 : Int32) = zI (-9) from by decide)), _, rfl, mok_fresh hM.1 rfl hT, rfl, rfl, rfl, rfl, rfl⟩
    | succ j_ ih62 =>
      intro k hk62  hinv62
      have hlt62 : k < S.ca := by omega
      have hst := (hS.2.2.1 k hlt62).2.2.1
      refine ev_b bX7_item_62_68 (lv' := [(4, .int (nI (k))), (0, .ref 0), (1, .int (nI (i))), (2, .int (nI (1))), (3, .int (nI (winB S 1023)))]) (st' := [.int (nI (S.ca)), .int (nI (k))]) (w2 := modW 0 S ((X.rf, wo, ta, ow, 0, X.sh, X.lt, X.ty, X.pl, X.nu, X.od, X.tt, X.oo, X.on, X.wn, X.pd, X.li, X.rr, X.rn, X.dr) : ModN) K) rfl ?_
      refine ev_icmp_ge_n (tgt := 103) (by omega) (by omega) dX7_item_68 (by decide) (fun h68 => (by exfalso; omega)) (fun h68 => ?_)
      refine ev_b bX7_item_71_74 (lv' := [(4, .int (nI (k))), (0, .ref 0), (1, .int (nI (i))), (2, .int (nI (1))), (3, .int (nI (winB S 1023)))]) (st' := [.int (nI (k)), .int (nI (winB S 1023))]) (w2 := modW 0 S ((X.rf, wo, ta, ow, 0, X.sh, X.lt, X.ty, X.pl, X.nu, X.od, X.tt, X.oo, X.on, X.wn, X.pd, X.li, X.rr, X.rn, X.dr) : ModN) K) rfl ?_
      refine ev_callS (Yc := mX7_has) [] dX7_item_74 tw_1057 kX7_has (m_X7_has (winB S 1023) k (by omega) (by omega)) rfl (st := []) rfl (by decide) rfl (by decide) (Nat.le_of_ble_eq_true rfl) (Nat.le_refl _) (Nat.le_refl _) (fun r w' h => by obtain ⟨-, rfl⟩ := h; exact Nat.le_of_ble_eq_true rfl) ?_
      rintro _ _ ⟨rfl, rfl⟩
      refine ev_eq (lv' := [(4, .int (nI (k))), (0, .ref 0), (1, .int (nI (i))), (2, .int (nI (1))), (3, .int (nI (winB S 1023)))]) (st' := [.int (nI (b01 ((winB S 1023).testBit k = true)))]) (w' := modW 0 S ((X.rf, wo, ta, ow, 0, X.sh, X.lt, X.ty, X.pl, X.nu, X.od, X.tt, X.oo, X.on, X.wn, X.pd, X.li, X.rr, X.rn, X.dr) : ModN) K) rfl rfl rfl ?_
      refine ev_ifeq_b (tgt := 97) dX7_item_77 (by decide) (fun h77 => ?_) (fun h77 => ?_)
      · skip
        have hno : ¬ ((hdTo S.st (1 <<< i) S.ca &&& S.ac) &&& winB S 1023).testBit k = true := fun z => h77 ((hw_bit hS).mp z).1
        refine ev_iinc_n (x := k) (v := 1) dX7_item_97 rfl (by decide) ?_
        refine ev_eq (lv' := [(4, .int (nI (k + 1))), (0, .ref 0), (1, .int (nI (i))), (2, .int (nI (1))), (3, .int (nI (winB S 1023)))]) rfl rfl rfl ?_
        refine ev_b bX7_item_100_62 (lv' := [(4, .int (nI (k + 1))), (0, .ref 0), (1, .int (nI (i))), (2, .int (nI (1))), (3, .int (nI (winB S 1023)))]) (st' := []) (w2 := modW 0 S ((X.rf, wo, ta, ow, 0, X.sh, X.lt, X.ty, X.pl, X.nu, X.od, X.tt, X.oo, X.on, X.wn, X.pd, X.li, X.rr, X.rn, X.dr) : ModN) K) rfl ?_
        rw [show nI (k + 1) = nI ((k + 1)) from congrArg nI (by omega)]
        exact ih62 (k + 1) (by omega) (lt_s hinv62 hno)
      · skip
        refine ev_b bX7_item_80_86 (lv' := [(4, .int (nI (k))), (0, .ref 0), (1, .int (nI (i))), (2, .int (nI (1))), (3, .int (nI (winB S 1023)))]) (st' := [.int (nI (k)), .ref 5]) (w2 := modW 0 S ((X.rf, wo, ta, ow, 0, X.sh, X.lt, X.ty, X.pl, X.nu, X.od, X.tt, X.oo, X.on, X.wn, X.pd, X.li, X.rr, X.rn, X.dr) : ModN) K) rfl ?_
        refine ev_iald_n (f := S.st) dX7_item_86 rfl (by omega) (by decide) ?_
        refine ev_b bX7_item_87_88 (lv' := [(4, .int (nI (k))), (0, .ref 0), (1, .int (nI (i))), (2, .int (nI (1))), (3, .int (nI (winB S 1023)))]) (st' := [.int (nI (i)), .int (nI (S.st k))]) (w2 := modW 0 S ((X.rf, wo, ta, ow, 0, X.sh, X.lt, X.ty, X.pl, X.nu, X.od, X.tt, X.oo, X.on, X.wn, X.pd, X.li, X.rr, X.rn, X.dr) : ModN) K) rfl ?_
        refine ev_callS (Yc := mX7_has) [] dX7_item_88 tw_1057 kX7_has (m_X7_has (S.st k) i (by omega) (by omega)) rfl (st := []) rfl (by decide) rfl (by decide) (Nat.le_of_ble_eq_true rfl) (Nat.le_refl _) (Nat.le_refl _) (fun r w' h => by obtain ⟨-, rfl⟩ := h; exact Nat.le_of_ble_eq_true rfl) ?_
        rintro _ _ ⟨rfl, rfl⟩
        refine ev_eq (lv' := [(4, .int (nI (k))), (0, .ref 0), (1, .int (nI (i))), (2, .int (nI (1))), (3, .int (nI (winB S 1023)))]) (st' := [.int (nI (b01 ((S.st k).testBit i = true)))]) (w' := modW 0 S ((X.rf, wo, ta, ow, 0, X.sh, X.lt, X.ty, X.pl, X.nu, X.od, X.tt, X.oo, X.on, X.wn, X.pd, X.li, X.rr, X.rn, X.dr) : ModN) K) rfl rfl rfl ?_
        refine ev_ifeq_b (tgt := 97) dX7_item_91 (by decide) (fun h91 => ?_) (fun h91 => ?_)
        · skip
          have hno : ¬ ((hdTo S.st (1 <<< i) S.ca &&& S.ac) &&& winB S 1023).testBit k = true := fun z => h91 ((hw_bit hS).mp z).2
          refine ev_iinc_n (x := k) (v := 1) dX7_item_97 rfl (by decide) ?_
          refine ev_eq (lv' := [(4, .int (nI (k + 1))), (0, .ref 0), (1, .int (nI (i))), (2, .int (nI (1))), (3, .int (nI (winB S 1023)))]) rfl rfl rfl ?_
          refine ev_b bX7_item_100_62 (lv' := [(4, .int (nI (k + 1))), (0, .ref 0), (1, .int (nI (i))), (2, .int (nI (1))), (3, .int (nI (winB S 1023)))]) (st' := []) (w2 := modW 0 S ((X.rf, wo, ta, ow, 0, X.sh, X.lt, X.ty, X.pl, X.nu, X.od, X.tt, X.oo, X.on, X.wn, X.pd, X.li, X.rr, X.rn, X.dr) : ModN) K) rfl ?_
          rw [show nI (k + 1) = nI ((k + 1)) from congrArg nI (by omega)]
          exact ih62 (k + 1) (by omega) (lt_s hinv62 hno)
        · skip
          refine ev_b bX7_item_94_96 (lv' := [(4, .int (nI (k))), (0, .ref 0), (1, .int (nI (i))), (2, .int (nI (1))), (3, .int (nI (winB S 1023)))]) (st' := [.int (nI (k))]) (w2 := modW 0 S ((X.rf, wo, ta, ow, 0, X.sh, X.lt, X.ty, X.pl, X.nu, X.od, X.tt, X.oo, X.on, X.wn, X.pd, X.li, X.rr, X.rn, X.dr) : ModN) K) rfl ?_
          exact ev_iret dX7_item_96 rfl mod_le (Nat.le_refl _) (Nat.le_refl _) ⟨by first | (rw [firstZ_at 10 0 (Nat.zero_le _) (by omega) (fun j _ hj => hinv62 j hj) ((hw_bit hS).mpr ⟨h77, h91⟩), zI_nat]) | (rw [firstZ_no 10 0 (fun j _ hj z => by have := (win_tb hS ((hw_bit hS).mp z).1).2; exact hinv62 j (by omega) z)]; exact congrArg (fun v => some (Value.int v)) (show (-9 : Int32) = zI (-9) from by decide)), _, rfl, mok_fresh hM.1 rfl hT, rfl, rfl, rfl, rfl, rfl⟩
  refine ev_pick (lv' := [(4, .int (nI (0))), (0, .ref 0), (1, .int (nI (i))), (2, .int (nI (1))), (3, .int (nI (winB S 1023)))]) rfl ?_
  exact L62 S.ca 0 (by omega) (fun j hj => absurd hj (Nat.not_lt_zero j))
theorem sc_out {S : SaleN} {i m : Nat} (hS : SaleOK S) (hi : i < 6) : outc (scS S i) m ↔ (outc S m ∧ andn m (andn 1023 (hdTo S.st (1 <<< i) S.ca)) = 0) := by
  unfold outc
  rw [packs_iff _ (Nat.le_refl _), packs_iff _ (Nat.le_refl _)]
  show ((m < 2 ^ S.ca ∧ andn m (andn S.ac (hdTo S.st (1 <<< i) S.ca &&& S.ac)) = 0 ∧ dsj S.st m S.ca = true) ∧ allS S m) ↔ (((m < 2 ^ S.ca ∧ andn m S.ac = 0 ∧ dsj S.st m S.ca = true) ∧ allS S m) ∧ andn m (andn 1023 (hdTo S.st (1 <<< i) S.ca)) = 0)
  have hpw := pow_ca hS
  have key : m < 2 ^ S.ca → (andn m (andn S.ac (hdTo S.st (1 <<< i) S.ca &&& S.ac)) = 0 ↔ (andn m S.ac = 0 ∧ andn m (andn 1023 (hdTo S.st (1 <<< i) S.ca)) = 0)) := by
    intro hm
    have h2 : andn m 1023 = 0 := by
      unfold andn
      rw [and_1023 (by omega)]
      exact Nat.xor_self m
    have h2 := andn_0.mp h2
    rw [andn_0, andn_0, andn_0]
    constructor
    · intro h
      have h3 : ∀ j, m.testBit j = true → S.ac.testBit j = true ∧ (hdTo S.st (1 <<< i) S.ca).testBit j = false := fun j hj => by
        have h4 := h j hj
        rw [andn_bit, Nat.testBit_and] at h4
        revert h4
        cases S.ac.testBit j <;> cases (hdTo S.st (1 <<< i) S.ca).testBit j <;> simp
      refine ⟨fun j hj => (h3 j hj).1, fun j hj => ?_⟩
      rw [andn_bit, h2 j hj, (h3 j hj).2]
      rfl
    · rintro ⟨h3, h4⟩ j hj
      have h5 := h4 j hj
      rw [andn_bit, h2 j hj] at h5
      rw [andn_bit, Nat.testBit_and, h3 j hj]
      revert h5
      cases (hdTo S.st (1 <<< i) S.ca).testBit j <;> simp
  constructor
  · rintro ⟨⟨h1, h2, h3⟩, h4⟩
    obtain ⟨h5, h6⟩ := (key h1).mp h2
    exact ⟨⟨⟨h1, h5, h3⟩, h4⟩, h6⟩
  · rintro ⟨⟨⟨h1, h2, h3⟩, h4⟩, h5⟩
    exact ⟨⟨h1, (key h1).mpr ⟨h2, h5⟩, h3⟩, h4⟩
theorem it_no {S : SaleN} {i m : Nat} (h : andn m (andn 1023 (hdTo S.st (1 <<< i) S.ca)) = 0) : (itTo S.st m S.ca).testBit i = false := by
  have h1 : itTo S.st m S.ca &&& 1 <<< i = 0 := by
    rw [it_disj]
    intro j hj hb
    have h2 := andn_0.mp h j hb
    rw [andn_bit, Bool.and_eq_true] at h2
    by_cases hz : S.st j &&& 1 <<< i = 0
    · exact hz
    · have h3 := (hd_bit (st := S.st) (items := 1 <<< i) S.ca j).mpr ⟨hj, hz⟩
      rw [h3] at h2
      cases h2.2
  cases hb : (itTo S.st m S.ca).testBit i with
  | false => rfl
  | true => exact absurd h1 ((and_bit _ _).mpr hb)
theorem rb_keep {rs : Nat → Nat} {x i : Nat} (h : x.testBit i = false) : ∀ n, rbTo rs x n = rbTo (up rs i 0) x n + if i < n then rs i else 0
  | 0 => rfl
  | n + 1 => by
    rw [rbTo_s, rbTo_s, rb_keep h n]
    by_cases e : i = n
    · subst e
      rw [h, up_at]
      simp
    · rw [up_ne (fun z => e z.symm)]
      by_cases hn : i < n
      · have h1 : i < n + 1 := by omega
        rw [if_pos hn, if_pos h1]
        omega
      · have h1 : ¬ i < n + 1 := by omega
        rw [if_neg hn, if_neg h1]
        omega
theorem sc_worth {S : SaleN} {i m : Nat} (hi : i < 6) (h : andn m (andn 1023 (hdTo S.st (1 <<< i) S.ca)) = 0) : worthN S m = worthN (scS S i) m + S.rs i := by
  unfold worthN
  show prTo S.pr m S.ca + rbTo S.rs (itTo S.st m S.ca) 6 = prTo S.pr m S.ca + rbTo (up S.rs i 0) (itTo S.st m S.ca) 6 + S.rs i
  rw [rb_keep (it_no h) 6, if_pos hi]
  omega
set_option maxRecDepth 100000 in
/-- the worth without an item's bids and its reserve -/
theorem sc_win {S : SaleN} {i : Nat} (hS : SaleOK S) (hi : i < 6) : winW S (andn 1023 (hdTo S.st (1 <<< i) S.ca)) = winW (scS S i) 1023 + S.rs i := by
  have hU := sc_ok hS i
  obtain ⟨m, h1, h2, h3, h4, h5, h6, h7, -, -, h8⟩ := wK_spec hU 1023
  have hm := (sc_out hS hi).mp h1
  have hw := sc_worth hi hm.2
  have h9 := win_uniq hS hm.1 hm.2 (fun x hx hx2 => by
    have hxo : outc (scS S i) x := (sc_out hS hi).mpr ⟨hx, hx2⟩
    have hxl := outc_lt hS hx
    have hxb : andn x 1023 = 0 := by
      unfold andn
      rw [and_1023 hxl]
      exact Nat.xor_self x
    have h10 := h8 x hxo hxb
    have h11 := sc_worth hi hx2
    have h12 := outc_le hS hx
    have h13 := outc_le hS hm.1
    unfold keyS at h10 ⊢
    rw [key_val h6, key_val hxl] at h10 ⊢
    omega)
  rw [h9.2, h5, hw]
theorem bX7_worthLess_0_4 {l : Launch} {E : XE} : Snd l E mX7_worthLess 0 4 (xs [x_push (.int (nI 0)), x_istore 2, x_push (.int (nI 0)), x_istore 3]) := Snd.cons (snd_iconst (v := nI 0) dX7_worthLess_0 (by decide)) (Snd.cons (snd_istore_n (i := 2) dX7_worthLess_1 rfl (by decide)) (Snd.cons (snd_iconst (v := nI 0) dX7_worthLess_2 (by decide)) (Snd.cons (snd_istore_n (i := 3) dX7_worthLess_3 rfl (by decide)) Snd.nil)))
theorem bX7_worthLess_4_9 {l : Launch} {E : XE} : Snd l E mX7_worthLess 4 9 (xs [x_iload 3, x_aload 0, x_get 8 6]) := Snd.cons (snd_iload_n (i := 3) dX7_worthLess_4 rfl) (Snd.cons (snd_aload_n (i := 0) dX7_worthLess_5 rfl) (Snd.cons (snd_get (ci := 8) (k := 6) dX7_worthLess_6 rfl inX7 (by decide) tw_920) Snd.nil))
theorem bX7_worthLess_41_49 {l : Launch} {E : XE} : Snd l E mX7_worthLess 41 49 (xs [x_aload 0, x_aload 0, x_get 8 7, x_iload 2, x_push (.int (-1)), x_i2 (fun x y => x ^^^ y)]) := Snd.cons (snd_aload_n (i := 0) dX7_worthLess_41 rfl) (Snd.cons (snd_aload_n (i := 0) dX7_worthLess_42 rfl) (Snd.cons (snd_get (ci := 8) (k := 7) dX7_worthLess_43 rfl inX7 (by decide) tw_921) (Snd.cons (snd_iload_n (i := 2) dX7_worthLess_46 rfl) (Snd.cons (snd_iconst (v := -1) dX7_worthLess_47 (by decide)) (Snd.cons (snd_ixor dX7_worthLess_48) Snd.nil)))))
theorem bX7_worthLess_53_58 {l : Launch} {E : XE} : Snd l E mX7_worthLess 53 58 (xs [x_aload 0, x_get 8 0, x_iload 1]) := Snd.cons (snd_aload_n (i := 0) dX7_worthLess_53 rfl) (Snd.cons (snd_get (ci := 8) (k := 0) dX7_worthLess_54 rfl inX7 (by decide) tw_914) (Snd.cons (snd_iload_n (i := 1) dX7_worthLess_57 rfl) Snd.nil))
theorem bX7_worthLess_12_18 {l : Launch} {E : XE} : Snd l E mX7_worthLess 12 18 (xs [x_iload 2, x_aload 0, x_get 8 4, x_iload 3]) := Snd.cons (snd_iload_n (i := 2) dX7_worthLess_12 rfl) (Snd.cons (snd_aload_n (i := 0) dX7_worthLess_13 rfl) (Snd.cons (snd_get (ci := 8) (k := 4) dX7_worthLess_14 rfl inX7 (by decide) tw_918) (Snd.cons (snd_iload_n (i := 3) dX7_worthLess_17 rfl) Snd.nil)))
theorem bX7_worthLess_19_20 {l : Launch} {E : XE} : Snd l E mX7_worthLess 19 20 (xs [x_iload 1]) := Snd.cons (snd_iload_n (i := 1) dX7_worthLess_19 rfl) Snd.nil
theorem bX7_worthLess_32_33 {l : Launch} {E : XE} : Snd l E mX7_worthLess 32 33 (xs [x_push (.int (nI 0))]) := Snd.cons (snd_iconst (v := nI 0) dX7_worthLess_32 (by decide)) Snd.nil
theorem bX7_worthLess_34_35 {l : Launch} {E : XE} : Snd l E mX7_worthLess 34 35 (xs [x_istore 2]) := Snd.cons (snd_istore_n (i := 2) dX7_worthLess_34 rfl (by decide)) Snd.nil
theorem bX7_worthLess_38_4 {l : Launch} {E : XE} : Snd l E mX7_worthLess 38 4 (xs [x_id]) := Snd.cons (snd_goto (tgt := 4) dX7_worthLess_38 (by decide)) Snd.nil
theorem bX7_worthLess_26_28 {l : Launch} {E : XE} : Snd l E mX7_worthLess 26 28 (xs [x_push (.int (nI 1)), x_iload 3]) := Snd.cons (snd_iconst (v := nI 1) dX7_worthLess_26 (by decide)) (Snd.cons (snd_iload_n (i := 3) dX7_worthLess_27 rfl) Snd.nil)
theorem bX7_worthLess_29_33 {l : Launch} {E : XE} : Snd l E mX7_worthLess 29 33 (xs [x_id]) := Snd.cons (snd_goto (tgt := 33) dX7_worthLess_29 (by decide)) Snd.nil
set_option maxHeartbeats 4000000 in
set_option maxRecDepth 100000 in
theorem m_X7_worthLess {l : Launch} {E : XE} (S : SaleN) (X : ModN) (K : Option (Nat → Nat)) (i : Nat) (hS : SaleOK S) (hi : i < 6) (h0 : X.sl = 0) (hT : TabF S X.wo X.ta) : MetE l E mX7_worthLess (4) 0 0 [.ref 0, .int (nI (i))] (modW 0 S X K) (fun r w' => r = some (.int (zI (((winW (scS S i) 1023 : Nat) : Int)))) ∧ w' = modW 0 S X K) := by
  refine MetE.of (by decide +kernel) (Nat.le_of_ble_eq_true rfl) ?_
  have hca := hS.1
  refine ev_eq (lv' := [(0, .ref 0), (1, .int (nI (i)))]) (st' := []) (w' := modW 0 S X K) rfl rfl rfl ?_
  refine ev_b bX7_worthLess_0_4 (lv' := [(3, .int (nI (0))), (2, .int (nI (0))), (0, .ref 0), (1, .int (nI (i)))]) (st' := []) (w2 := modW 0 S X K) rfl ?_
  have L4 : ∀ (j_ k : Nat), k + j_ = S.ca → Ev l E mX7_worthLess (4) 0 0 (modW 0 S X K) (fun r w' => r = some (.int (zI (((winW (scS S i) 1023 : Nat) : Int)))) ∧ w' = modW 0 S X K) 0 0 4 [(3, .int (nI (k))), (2, .int (nI (hdTo S.st (1 <<< i) k))), (0, .ref 0), (1, .int (nI (i)))] [] (modW 0 S X K) := by
    intro j_
    induction j_ with
    | zero =>
      intro k hk4  
      replace hk4 : k = S.ca := hk4
      subst hk4
      refine ev_b bX7_worthLess_4_9 (lv' := [(3, .int (nI (S.ca))), (2, .int (nI (hdTo S.st (1 <<< i) S.ca))), (0, .ref 0), (1, .int (nI (i)))]) (st' := [.int (nI (S.ca)), .int (nI (S.ca))]) (w2 := modW 0 S X K) rfl ?_
      refine ev_icmp_ge_n (tgt := 41) (by omega) (by omega) dX7_worthLess_9 (by decide) (fun h9 => ?_) (fun h9 => (by exfalso; omega))
      refine ev_b bX7_worthLess_41_49 (lv' := [(3, .int (nI (S.ca))), (2, .int (nI (hdTo S.st (1 <<< i) S.ca))), (0, .ref 0), (1, .int (nI (i)))]) (st' := [.int (nI (hdTo S.st (1 <<< i) S.ca) ^^^ (-1)), .int (nI (S.ac)), .ref 0]) (w2 := modW 0 S X K) rfl ?_
      refine ev_iandn_n dX7_worthLess_49 ?_
      refine ev_callM (Yc := mX7_bestOf) (st := []) dX7_worthLess_50 tw_1167 kX7_bestOf (m_X7_bestOf_t S S.kd S.fg X K (andn S.ac (hdTo S.st (1 <<< i) S.ca)) hS h0 hT (bits_lt hS _)) rfl rfl rfl rfl (by decide) (Nat.le_of_ble_eq_true rfl) (Nat.le_refl _) (Nat.le_refl _) (fun r w' h => by obtain ⟨-, rfl⟩ := h; exact mod_eq) ?_
      rintro _ _ ⟨rfl, rfl⟩
      refine ev_eq (lv' := [(3, .int (nI (S.ca))), (2, .int (nI (hdTo S.st (1 <<< i) S.ca))), (0, .ref 0), (1, .int (nI (i)))]) (st' := [.int (nI (winW S (andn S.ac (hdTo S.st (1 <<< i) S.ca))))]) (w' := modW 0 S X K) rfl rfl rfl ?_
      refine ev_top (y := (nI (winW (scS S i) 1023 + S.rs i))) (congrArg nI (show winW S (andn S.ac (hdTo S.st (1 <<< i) S.ca)) = winW (scS S i) 1023 + S.rs i from by rw [(win_but hS _).2]; exact sc_win hS hi)) ?_
      refine ev_b bX7_worthLess_53_58 (lv' := [(3, .int (nI (S.ca))), (2, .int (nI (hdTo S.st (1 <<< i) S.ca))), (0, .ref 0), (1, .int (nI (i)))]) (st' := [.int (nI (i)), .ref 1, .int (nI (winW (scS S i) 1023 + S.rs i))]) (w2 := modW 0 S X K) rfl ?_
      refine ev_iald_n (f := S.rs) dX7_worthLess_58 rfl (by omega) (by decide) ?_
      refine ev_top (y := zI (((S.rs i : Nat) : Int))) (zI_nat _).symm ?_
      refine ev_top2 (y := zI (((winW (scS S i) 1023 + S.rs i : Nat) : Int))) (zI_nat _).symm ?_
      refine ev_isub_z dX7_worthLess_59 ?_
      exact ev_iret dX7_worthLess_60 rfl mod_le (Nat.le_refl _) (Nat.le_refl _) ⟨(congrArg (fun t => some (Value.int (zI t))) (show (((winW (scS S i) 1023 + S.rs i : Nat) : Int)) - (((S.rs i : Nat) : Int)) = ((winW (scS S i) 1023 : Nat) : Int) from by omega)), rfl⟩
    | succ j_ ih4 =>
      intro k hk4  
      have hlt4 : k < S.ca := by omega
      have hst := (hS.2.2.1 k hlt4).2.2.1
      refine ev_b bX7_worthLess_4_9 (lv' := [(3, .int (nI (k))), (2, .int (nI (hdTo S.st (1 <<< i) k))), (0, .ref 0), (1, .int (nI (i)))]) (st' := [.int (nI (S.ca)), .int (nI (k))]) (w2 := modW 0 S X K) rfl ?_
      refine ev_icmp_ge_n (tgt := 41) (by omega) (by omega) dX7_worthLess_9 (by decide) (fun h9 => (by exfalso; omega)) (fun h9 => ?_)
      refine ev_b bX7_worthLess_12_18 (lv' := [(3, .int (nI (k))), (2, .int (nI (hdTo S.st (1 <<< i) k))), (0, .ref 0), (1, .int (nI (i)))]) (st' := [.int (nI (k)), .ref 5, .int (nI (hdTo S.st (1 <<< i) k))]) (w2 := modW 0 S X K) rfl ?_
      refine ev_iald_n (f := S.st) dX7_worthLess_18 rfl (by omega) (by decide) ?_
      refine ev_b bX7_worthLess_19_20 (lv' := [(3, .int (nI (k))), (2, .int (nI (hdTo S.st (1 <<< i) k))), (0, .ref 0), (1, .int (nI (i)))]) (st' := [.int (nI (i)), .int (nI (S.st k)), .int (nI (hdTo S.st (1 <<< i) k))]) (w2 := modW 0 S X K) rfl ?_
      refine ev_callS (Yc := mX7_has) [] dX7_worthLess_20 tw_1057 kX7_has (m_X7_has (S.st k) i (by omega) (by omega)) rfl (st := [.int (nI (hdTo S.st (1 <<< i) k))]) rfl (by decide) rfl (by decide) (Nat.le_of_ble_eq_true rfl) (Nat.le_refl _) (Nat.le_refl _) (fun r w' h => by obtain ⟨-, rfl⟩ := h; exact Nat.le_of_ble_eq_true rfl) ?_
      rintro _ _ ⟨rfl, rfl⟩
      refine ev_eq (lv' := [(3, .int (nI (k))), (2, .int (nI (hdTo S.st (1 <<< i) k))), (0, .ref 0), (1, .int (nI (i)))]) (st' := [.int (nI (b01 ((S.st k).testBit i = true))), .int (nI (hdTo S.st (1 <<< i) k))]) (w' := modW 0 S X K) rfl rfl rfl ?_
      refine ev_ifeq_b (tgt := 32) dX7_worthLess_23 (by decide) (fun h23 => ?_) (fun h23 => ?_)
      · skip
        refine ev_b bX7_worthLess_32_33 (lv' := [(3, .int (nI (k))), (2, .int (nI (hdTo S.st (1 <<< i) k))), (0, .ref 0), (1, .int (nI (i)))]) (st' := [.int (nI (0)), .int (nI (hdTo S.st (1 <<< i) k))]) (w2 := modW 0 S X K) rfl ?_
        refine ev_ior_n dX7_worthLess_33 ?_
        refine ev_b bX7_worthLess_34_35 (lv' := [(2, .int (nI ((hdTo S.st (1 <<< i) k) ||| 0))), (3, .int (nI (k))), (0, .ref 0), (1, .int (nI (i)))]) (st' := []) (w2 := modW 0 S X K) rfl ?_
        refine ev_iinc_n (x := k) (v := 1) dX7_worthLess_35 rfl (by decide) ?_
        refine ev_eq (lv' := [(3, .int (nI (k + 1))), (2, .int (nI ((hdTo S.st (1 <<< i) k) ||| 0))), (0, .ref 0), (1, .int (nI (i)))]) rfl rfl rfl ?_
        refine ev_b bX7_worthLess_38_4 (lv' := [(3, .int (nI (k + 1))), (2, .int (nI ((hdTo S.st (1 <<< i) k) ||| 0))), (0, .ref 0), (1, .int (nI (i)))]) (st' := []) (w2 := modW 0 S X K) rfl ?_
        rw [show nI (k + 1) = nI ((k + 1)) from congrArg nI (by omega)]
        rw [show nI ((hdTo S.st (1 <<< i) k) ||| 0) = nI (hdTo S.st (1 <<< i) (k + 1)) from congrArg nI (by rw [hdTo_s]; first | rw [if_neg (fun z => h23 ((bit_and _ _).mp z)), Nat.or_zero] | rw [if_pos ((bit_and _ _).mpr h23)])]
        exact ih4 (k + 1) (by omega) 
      · skip
        refine ev_b bX7_worthLess_26_28 (lv' := [(3, .int (nI (k))), (2, .int (nI (hdTo S.st (1 <<< i) k))), (0, .ref 0), (1, .int (nI (i)))]) (st' := [.int (nI (k)), .int (nI (1)), .int (nI (hdTo S.st (1 <<< i) k))]) (w2 := modW 0 S X K) rfl ?_
        refine ev_ishl_n (by omega) dX7_worthLess_28 ?_
        refine ev_b bX7_worthLess_29_33 (lv' := [(3, .int (nI (k))), (2, .int (nI (hdTo S.st (1 <<< i) k))), (0, .ref 0), (1, .int (nI (i)))]) (st' := [.int (nI (1 <<< k)), .int (nI (hdTo S.st (1 <<< i) k))]) (w2 := modW 0 S X K) rfl ?_
        refine ev_ior_n dX7_worthLess_33 ?_
        refine ev_b bX7_worthLess_34_35 (lv' := [(2, .int (nI ((hdTo S.st (1 <<< i) k) ||| (1 <<< k)))), (3, .int (nI (k))), (0, .ref 0), (1, .int (nI (i)))]) (st' := []) (w2 := modW 0 S X K) rfl ?_
        refine ev_iinc_n (x := k) (v := 1) dX7_worthLess_35 rfl (by decide) ?_
        refine ev_eq (lv' := [(3, .int (nI (k + 1))), (2, .int (nI ((hdTo S.st (1 <<< i) k) ||| (1 <<< k)))), (0, .ref 0), (1, .int (nI (i)))]) rfl rfl rfl ?_
        refine ev_b bX7_worthLess_38_4 (lv' := [(3, .int (nI (k + 1))), (2, .int (nI ((hdTo S.st (1 <<< i) k) ||| (1 <<< k)))), (0, .ref 0), (1, .int (nI (i)))]) (st' := []) (w2 := modW 0 S X K) rfl ?_
        rw [show nI (k + 1) = nI ((k + 1)) from congrArg nI (by omega)]
        rw [show nI ((hdTo S.st (1 <<< i) k) ||| (1 <<< k)) = nI (hdTo S.st (1 <<< i) (k + 1)) from congrArg nI (by rw [hdTo_s]; first | rw [if_neg (fun z => h23 ((bit_and _ _).mp z)), Nat.or_zero] | rw [if_pos ((bit_and _ _).mpr h23)])]
        exact ih4 (k + 1) (by omega) 
  exact L4 S.ca 0 (by omega) 
theorem bX7_item_106_111 {l : Launch} {E : XE} : Snd l E mX7_item 106 111 (xs [x_aload 0, x_get 8 9, x_iload 3]) := Snd.cons (snd_aload_n (i := 0) dX7_item_106 rfl) (Snd.cons (snd_get (ci := 8) (k := 9) dX7_item_107 rfl inX7 (by decide) tw_923) (Snd.cons (snd_iload_n (i := 3) dX7_item_110 rfl) Snd.nil))
theorem bX7_item_112_114 {l : Launch} {E : XE} : Snd l E mX7_item 112 114 (xs [x_aload 0, x_iload 1]) := Snd.cons (snd_aload_n (i := 0) dX7_item_112 rfl) (Snd.cons (snd_iload_n (i := 1) dX7_item_113 rfl) Snd.nil)
set_option maxHeartbeats 4000000 in
set_option maxRecDepth 100000 in
theorem q_item_w2 {l : Launch} {E : XE} (S : SaleN) (X : ModN) (K : Option (Nat → Nat)) (i : Nat) (hS : SaleOK S) (hM : MOK S X) (hi : i < 6) : MetE l E mX7_item (6) 0 0 [.ref 0, .int (nI (i)), .int (nI (2))] (modW 0 S X K) (MP S K (X.lt) (X.ty) (X.rr) (X.rn) (X.rf) (some (.int (zI (((winW S 1023 : Nat) : Int) - ((winW (scS S i) 1023 : Nat) : Int)))))) := by
  refine MetE.of (by decide +kernel) (Nat.le_of_ble_eq_true rfl) ?_
  have hca := hS.1
  have hpw := pow_ca hS
  have hac := ac_lt hS
  have hshl := shl_le hS
  
  refine ev_eq (lv' := [(0, .ref 0), (1, .int (nI (i))), (2, .int (nI (2)))]) (st' := []) (w' := modW 0 S X K) rfl rfl rfl ?_
  refine ev_b bX7_item_0_3 (lv' := [(0, .ref 0), (1, .int (nI (i))), (2, .int (nI (2)))]) (st' := [.int (nI (5)), .int (nI (0)), .int (nI (i))]) (w2 := modW 0 S X K) rfl ?_
  refine ev_callS (Yc := mX7_isIn) [] dX7_item_3 tw_1036 kX7_isIn (m_X7_isIn_n i 0 5 (by omega) (by decide) (by decide)) rfl (st := []) rfl (by decide) rfl (by decide) (Nat.le_of_ble_eq_true rfl) (Nat.le_refl _) (Nat.le_refl _) (fun r w' h => by obtain ⟨-, rfl⟩ := h; exact Nat.le_of_ble_eq_true rfl) ?_
  rintro _ _ ⟨rfl, rfl⟩
  refine ev_eq (lv' := [(0, .ref 0), (1, .int (nI (i))), (2, .int (nI (2)))]) (st' := [.int (nI (b01 (0 ≤ i ∧ i ≤ 5)))]) (w' := modW 0 S X K) rfl rfl rfl ?_
  refine ev_ifne_b (tgt := 15) dX7_item_6 (by decide) (fun h6 => ?_) (fun h6 => (by exfalso; omega))
  refine ev_b bX7_item_15_16 (lv' := [(0, .ref 0), (1, .int (nI (i))), (2, .int (nI (2)))]) (st' := [.ref 0]) (w2 := modW 0 S X K) rfl ?_
  refine ev_callM (Yc := mX7_winnersNow) (st := []) dX7_item_16 tw_1104 kX7_winnersNow (m_X7_winnersNow_g S S.kd S.fg X K hS (kf_self hM.1) hM.2) rfl rfl rfl rfl (by decide) (Nat.le_of_ble_eq_true rfl) (Nat.le_refl _) (Nat.le_refl _) (fun r w' h => by obtain ⟨-, wo, ta, ow, rfl, -⟩ := h; exact mod_eq) ?_
  rintro _ _ ⟨rfl, wo, ta, ow, rfl, hT⟩
  refine ev_eq (lv' := [(0, .ref 0), (1, .int (nI (i))), (2, .int (nI (2)))]) (st' := [.int (nI (winB S 1023))]) (w' := modW 0 S ((X.rf, wo, ta, ow, 0, X.sh, X.lt, X.ty, X.pl, X.nu, X.od, X.tt, X.oo, X.on, X.wn, X.pd, X.li, X.rr, X.rn, X.dr) : ModN) K) rfl rfl rfl ?_
  have hwb := winB_lt hS 1023
  refine ev_b bX7_item_19_21 (lv' := [(3, .int (nI (winB S 1023))), (0, .ref 0), (1, .int (nI (i))), (2, .int (nI (2)))]) (st' := [.int (nI (2))]) (w2 := modW 0 S ((X.rf, wo, ta, ow, 0, X.sh, X.lt, X.ty, X.pl, X.nu, X.od, X.tt, X.oo, X.on, X.wn, X.pd, X.li, X.rr, X.rn, X.dr) : ModN) K) rfl ?_
  refine ev_tableIn (off := 85) (tgt := 106) dX7_item_21 (by decide) (by decide) (by decide) (by decide) ?_
  refine ev_b bX7_item_106_111 (lv' := [(3, .int (nI (winB S 1023))), (0, .ref 0), (1, .int (nI (i))), (2, .int (nI (2)))]) (st' := [.int (nI (winB S 1023)), .ref 8]) (w2 := modW 0 S ((X.rf, wo, ta, ow, 0, X.sh, X.lt, X.ty, X.pl, X.nu, X.od, X.tt, X.oo, X.on, X.wn, X.pd, X.li, X.rr, X.rn, X.dr) : ModN) K) rfl ?_
  refine ev_iald_z (f := wo) dX7_item_111 rfl (by omega) (by decide) ?_
  refine ev_top (y := (zI (((winW S 1023 : Nat) : Int)))) (congrArg zI (show wo (winB S 1023) = ((winW S 1023 : Nat) : Int) from by rw [(hT _ (out_shl (win_spec hS (1023)).1)).1, out_wt (win_spec hS (1023)).1, (win_spec hS (1023)).2.2])) ?_
  refine ev_b bX7_item_112_114 (lv' := [(3, .int (nI (winB S 1023))), (0, .ref 0), (1, .int (nI (i))), (2, .int (nI (2)))]) (st' := [.int (nI (i)), .ref 0, .int (zI (((winW S 1023 : Nat) : Int)))]) (w2 := modW 0 S ((X.rf, wo, ta, ow, 0, X.sh, X.lt, X.ty, X.pl, X.nu, X.od, X.tt, X.oo, X.on, X.wn, X.pd, X.li, X.rr, X.rn, X.dr) : ModN) K) rfl ?_
  refine ev_callM (Yc := mX7_worthLess) (st := [.int (zI (((winW S 1023 : Nat) : Int)))]) dX7_item_114 tw_1200 kX7_worthLess (m_X7_worthLess S ((X.rf, wo, ta, ow, 0, X.sh, X.lt, X.ty, X.pl, X.nu, X.od, X.tt, X.oo, X.on, X.wn, X.pd, X.li, X.rr, X.rn, X.dr) : ModN) K i hS hi rfl hT) rfl rfl rfl rfl (by decide) (Nat.le_of_ble_eq_true rfl) (Nat.le_refl _) (Nat.le_refl _) (fun r w' h => by obtain ⟨-, rfl⟩ := h; exact mod_eq) ?_
  rintro _ _ ⟨rfl, rfl⟩
  refine ev_eq (lv' := [(3, .int (nI (winB S 1023))), (0, .ref 0), (1, .int (nI (i))), (2, .int (nI (2)))]) (st' := [.int (zI (((winW (scS S i) 1023 : Nat) : Int))), .int (zI (((winW S 1023 : Nat) : Int)))]) (w' := modW 0 S ((X.rf, wo, ta, ow, 0, X.sh, X.lt, X.ty, X.pl, X.nu, X.od, X.tt, X.oo, X.on, X.wn, X.pd, X.li, X.rr, X.rn, X.dr) : ModN) K) rfl rfl rfl ?_
  refine ev_isub_z dX7_item_117 ?_
  exact ev_iret dX7_item_118 rfl mod_le (Nat.le_refl _) (Nat.le_refl _) ⟨rfl, _, rfl, mok_fresh hM.1 rfl hT, rfl, rfl, rfl, rfl, rfl⟩
theorem bX7_item_119_125 {l : Launch} {E : XE} : Snd l E mX7_item 119 125 (xs [x_push (.int (nI 0)), x_istore 4, x_push (.int (nI 0)), x_istore 5]) := Snd.cons (snd_iconst (v := nI 0) dX7_item_119 (by decide)) (Snd.cons (snd_istore dX7_item_120 (by decide)) (Snd.cons (snd_iconst (v := nI 0) dX7_item_122 (by decide)) (Snd.cons (snd_istore dX7_item_123 (by decide)) Snd.nil)))
theorem bX7_item_125_131 {l : Launch} {E : XE} : Snd l E mX7_item 125 131 (xs [x_iload 5, x_aload 0, x_get 8 6]) := Snd.cons (snd_iload dX7_item_125) (Snd.cons (snd_aload_n (i := 0) dX7_item_127 rfl) (Snd.cons (snd_get (ci := 8) (k := 6) dX7_item_128 rfl inX7 (by decide) tw_920) Snd.nil))
theorem bX7_item_176_178 {l : Launch} {E : XE} : Snd l E mX7_item 176 178 (xs [x_iload 4]) := Snd.cons (snd_iload dX7_item_176) Snd.nil
theorem bX7_item_134_142 {l : Launch} {E : XE} : Snd l E mX7_item 134 142 (xs [x_iload 4, x_aload 0, x_get 8 7, x_iload 5]) := Snd.cons (snd_iload dX7_item_134) (Snd.cons (snd_aload_n (i := 0) dX7_item_136 rfl) (Snd.cons (snd_get (ci := 8) (k := 7) dX7_item_137 rfl inX7 (by decide) tw_921) (Snd.cons (snd_iload dX7_item_140) Snd.nil)))
theorem bX7_item_166_167 {l : Launch} {E : XE} : Snd l E mX7_item 166 167 (xs [x_push (.int (nI 0))]) := Snd.cons (snd_iconst (v := nI 0) dX7_item_166 (by decide)) Snd.nil
theorem bX7_item_168_170 {l : Launch} {E : XE} : Snd l E mX7_item 168 170 (xs [x_istore 4]) := Snd.cons (snd_istore dX7_item_168 (by decide)) Snd.nil
theorem bX7_item_173_125 {l : Launch} {E : XE} : Snd l E mX7_item 173 125 (xs [x_id]) := Snd.cons (snd_goto (tgt := 125) dX7_item_173 (by decide)) Snd.nil
theorem bX7_item_148_154 {l : Launch} {E : XE} : Snd l E mX7_item 148 154 (xs [x_aload 0, x_get 8 4, x_iload 5]) := Snd.cons (snd_aload_n (i := 0) dX7_item_148 rfl) (Snd.cons (snd_get (ci := 8) (k := 4) dX7_item_149 rfl inX7 (by decide) tw_918) (Snd.cons (snd_iload dX7_item_152) Snd.nil))
theorem bX7_item_155_156 {l : Launch} {E : XE} : Snd l E mX7_item 155 156 (xs [x_iload 1]) := Snd.cons (snd_iload_n (i := 1) dX7_item_155 rfl) Snd.nil
theorem bX7_item_162_167 {l : Launch} {E : XE} : Snd l E mX7_item 162 167 (xs [x_push (.int (nI 1)), x_id]) := Snd.cons (snd_iconst (v := nI 1) dX7_item_162 (by decide)) (Snd.cons (snd_goto (tgt := 167) dX7_item_163 (by decide)) Snd.nil)
set_option maxHeartbeats 4000000 in
set_option maxRecDepth 100000 in
theorem q_item_w3 {l : Launch} {E : XE} (S : SaleN) (X : ModN) (K : Option (Nat → Nat)) (i : Nat) (hS : SaleOK S) (hM : MOK S X) (hi : i < 6) : MetE l E mX7_item (6) 0 0 [.ref 0, .int (nI (i)), .int (nI (3))] (modW 0 S X K) (MP S K (X.lt) (X.ty) (X.rr) (X.rn) (X.rf) (some (.int (nI (pop (hdTo S.st (1 <<< i) S.ca &&& S.ac)))))) := by
  refine MetE.of (by decide +kernel) (Nat.le_of_ble_eq_true rfl) ?_
  have hca := hS.1
  have hpw := pow_ca hS
  have hac := ac_lt hS
  have hshl := shl_le hS
  
  refine ev_eq (lv' := [(0, .ref 0), (1, .int (nI (i))), (2, .int (nI (3)))]) (st' := []) (w' := modW 0 S X K) rfl rfl rfl ?_
  refine ev_b bX7_item_0_3 (lv' := [(0, .ref 0), (1, .int (nI (i))), (2, .int (nI (3)))]) (st' := [.int (nI (5)), .int (nI (0)), .int (nI (i))]) (w2 := modW 0 S X K) rfl ?_
  refine ev_callS (Yc := mX7_isIn) [] dX7_item_3 tw_1036 kX7_isIn (m_X7_isIn_n i 0 5 (by omega) (by decide) (by decide)) rfl (st := []) rfl (by decide) rfl (by decide) (Nat.le_of_ble_eq_true rfl) (Nat.le_refl _) (Nat.le_refl _) (fun r w' h => by obtain ⟨-, rfl⟩ := h; exact Nat.le_of_ble_eq_true rfl) ?_
  rintro _ _ ⟨rfl, rfl⟩
  refine ev_eq (lv' := [(0, .ref 0), (1, .int (nI (i))), (2, .int (nI (3)))]) (st' := [.int (nI (b01 (0 ≤ i ∧ i ≤ 5)))]) (w' := modW 0 S X K) rfl rfl rfl ?_
  refine ev_ifne_b (tgt := 15) dX7_item_6 (by decide) (fun h6 => ?_) (fun h6 => (by exfalso; omega))
  refine ev_b bX7_item_15_16 (lv' := [(0, .ref 0), (1, .int (nI (i))), (2, .int (nI (3)))]) (st' := [.ref 0]) (w2 := modW 0 S X K) rfl ?_
  refine ev_callM (Yc := mX7_winnersNow) (st := []) dX7_item_16 tw_1104 kX7_winnersNow (m_X7_winnersNow_g S S.kd S.fg X K hS (kf_self hM.1) hM.2) rfl rfl rfl rfl (by decide) (Nat.le_of_ble_eq_true rfl) (Nat.le_refl _) (Nat.le_refl _) (fun r w' h => by obtain ⟨-, wo, ta, ow, rfl, -⟩ := h; exact mod_eq) ?_
  rintro _ _ ⟨rfl, wo, ta, ow, rfl, hT⟩
  refine ev_eq (lv' := [(0, .ref 0), (1, .int (nI (i))), (2, .int (nI (3)))]) (st' := [.int (nI (winB S 1023))]) (w' := modW 0 S ((X.rf, wo, ta, ow, 0, X.sh, X.lt, X.ty, X.pl, X.nu, X.od, X.tt, X.oo, X.on, X.wn, X.pd, X.li, X.rr, X.rn, X.dr) : ModN) K) rfl rfl rfl ?_
  have hwb := winB_lt hS 1023
  refine ev_b bX7_item_19_21 (lv' := [(3, .int (nI (winB S 1023))), (0, .ref 0), (1, .int (nI (i))), (2, .int (nI (3)))]) (st' := [.int (nI (3))]) (w2 := modW 0 S ((X.rf, wo, ta, ow, 0, X.sh, X.lt, X.ty, X.pl, X.nu, X.od, X.tt, X.oo, X.on, X.wn, X.pd, X.li, X.rr, X.rn, X.dr) : ModN) K) rfl ?_
  refine ev_tableIn (off := 98) (tgt := 119) dX7_item_21 (by decide) (by decide) (by decide) (by decide) ?_
  refine ev_b bX7_item_119_125 (lv' := [(5, .int (nI (0))), (4, .int (nI (0))), (3, .int (nI (winB S 1023))), (0, .ref 0), (1, .int (nI (i))), (2, .int (nI (3)))]) (st' := []) (w2 := modW 0 S ((X.rf, wo, ta, ow, 0, X.sh, X.lt, X.ty, X.pl, X.nu, X.od, X.tt, X.oo, X.on, X.wn, X.pd, X.li, X.rr, X.rn, X.dr) : ModN) K) rfl ?_
  have L125 : ∀ (j_ k : Nat), k + j_ = S.ca → Ev l E mX7_item (6) 0 0 (modW 0 S X K) (MP S K (X.lt) (X.ty) (X.rr) (X.rn) (X.rf) (some (.int (nI (pop (hdTo S.st (1 <<< i) S.ca &&& S.ac)))))) 0 0 125 [(5, .int (nI (k))), (4, .int (nI (popTo (hdTo S.st (1 <<< i) S.ca &&& S.ac) k))), (0, .ref 0), (1, .int (nI (i))), (2, .int (nI (3))), (3, .int (nI (winB S 1023)))] [] (modW 0 S ((X.rf, wo, ta, ow, 0, X.sh, X.lt, X.ty, X.pl, X.nu, X.od, X.tt, X.oo, X.on, X.wn, X.pd, X.li, X.rr, X.rn, X.dr) : ModN) K) := by
    intro j_
    induction j_ with
    | zero =>
      intro k hk125  
      replace hk125 : k = S.ca := hk125
      subst hk125
      refine ev_b bX7_item_125_131 (lv' := [(5, .int (nI (S.ca))), (4, .int (nI (popTo (hdTo S.st (1 <<< i) S.ca &&& S.ac) S.ca))), (0, .ref 0), (1, .int (nI (i))), (2, .int (nI (3))), (3, .int (nI (winB S 1023)))]) (st' := [.int (nI (S.ca)), .int (nI (S.ca))]) (w2 := modW 0 S ((X.rf, wo, ta, ow, 0, X.sh, X.lt, X.ty, X.pl, X.nu, X.od, X.tt, X.oo, X.on, X.wn, X.pd, X.li, X.rr, X.rn, X.dr) : ModN) K) rfl ?_
      refine ev_icmp_ge_n (tgt := 176) (by omega) (by omega) dX7_item_131 (by decide) (fun h131 => ?_) (fun h131 => (by exfalso; omega))
      refine ev_b bX7_item_176_178 (lv' := [(5, .int (nI (S.ca))), (4, .int (nI (popTo (hdTo S.st (1 <<< i) S.ca &&& S.ac) S.ca))), (0, .ref 0), (1, .int (nI (i))), (2, .int (nI (3))), (3, .int (nI (winB S 1023)))]) (st' := [.int (nI (popTo (hdTo S.st (1 <<< i) S.ca &&& S.ac) S.ca))]) (w2 := modW 0 S ((X.rf, wo, ta, ow, 0, X.sh, X.lt, X.ty, X.pl, X.nu, X.od, X.tt, X.oo, X.on, X.wn, X.pd, X.li, X.rr, X.rn, X.dr) : ModN) K) rfl ?_
      exact ev_iret dX7_item_178 rfl mod_le (Nat.le_refl _) (Nat.le_refl _) ⟨by exact congrArg (fun n => some (Value.int (nI n))) (popTo_top (Nat.lt_of_le_of_lt Nat.and_le_right hS.2.1) 10 hS.1).symm, _, rfl, mok_fresh hM.1 rfl hT, rfl, rfl, rfl, rfl, rfl⟩
    | succ j_ ih125 =>
      intro k hk125  
      have hlt125 : k < S.ca := by omega
      have hst := (hS.2.2.1 k hlt125).2.2.1
      have hb := holds_bit (S := S) (i := i) hlt125
      refine ev_b bX7_item_125_131 (lv' := [(5, .int (nI (k))), (4, .int (nI (popTo (hdTo S.st (1 <<< i) S.ca &&& S.ac) k))), (0, .ref 0), (1, .int (nI (i))), (2, .int (nI (3))), (3, .int (nI (winB S 1023)))]) (st' := [.int (nI (S.ca)), .int (nI (k))]) (w2 := modW 0 S ((X.rf, wo, ta, ow, 0, X.sh, X.lt, X.ty, X.pl, X.nu, X.od, X.tt, X.oo, X.on, X.wn, X.pd, X.li, X.rr, X.rn, X.dr) : ModN) K) rfl ?_
      refine ev_icmp_ge_n (tgt := 176) (by omega) (by omega) dX7_item_131 (by decide) (fun h131 => (by exfalso; omega)) (fun h131 => ?_)
      refine ev_b bX7_item_134_142 (lv' := [(5, .int (nI (k))), (4, .int (nI (popTo (hdTo S.st (1 <<< i) S.ca &&& S.ac) k))), (0, .ref 0), (1, .int (nI (i))), (2, .int (nI (3))), (3, .int (nI (winB S 1023)))]) (st' := [.int (nI (k)), .int (nI (S.ac)), .int (nI (popTo (hdTo S.st (1 <<< i) S.ca &&& S.ac) k))]) (w2 := modW 0 S ((X.rf, wo, ta, ow, 0, X.sh, X.lt, X.ty, X.pl, X.nu, X.od, X.tt, X.oo, X.on, X.wn, X.pd, X.li, X.rr, X.rn, X.dr) : ModN) K) rfl ?_
      refine ev_callS (Yc := mX7_has) [] dX7_item_142 tw_1057 kX7_has (m_X7_has S.ac k hac (by omega)) rfl (st := [.int (nI (popTo (hdTo S.st (1 <<< i) S.ca &&& S.ac) k))]) rfl (by decide) rfl (by decide) (Nat.le_of_ble_eq_true rfl) (Nat.le_refl _) (Nat.le_refl _) (fun r w' h => by obtain ⟨-, rfl⟩ := h; exact Nat.le_of_ble_eq_true rfl) ?_
      rintro _ _ ⟨rfl, rfl⟩
      refine ev_eq (lv' := [(5, .int (nI (k))), (4, .int (nI (popTo (hdTo S.st (1 <<< i) S.ca &&& S.ac) k))), (0, .ref 0), (1, .int (nI (i))), (2, .int (nI (3))), (3, .int (nI (winB S 1023)))]) (st' := [.int (nI (b01 (S.ac.testBit k = true))), .int (nI (popTo (hdTo S.st (1 <<< i) S.ca &&& S.ac) k))]) (w' := modW 0 S ((X.rf, wo, ta, ow, 0, X.sh, X.lt, X.ty, X.pl, X.nu, X.od, X.tt, X.oo, X.on, X.wn, X.pd, X.li, X.rr, X.rn, X.dr) : ModN) K) rfl rfl rfl ?_
      refine ev_ifeq_b (tgt := 166) dX7_item_145 (by decide) (fun h145 => ?_) (fun h145 => ?_)
      · skip
        refine ev_b bX7_item_166_167 (lv' := [(5, .int (nI (k))), (4, .int (nI (popTo (hdTo S.st (1 <<< i) S.ca &&& S.ac) k))), (0, .ref 0), (1, .int (nI (i))), (2, .int (nI (3))), (3, .int (nI (winB S 1023)))]) (st' := [.int (nI (0)), .int (nI (popTo (hdTo S.st (1 <<< i) S.ca &&& S.ac) k))]) (w2 := modW 0 S ((X.rf, wo, ta, ow, 0, X.sh, X.lt, X.ty, X.pl, X.nu, X.od, X.tt, X.oo, X.on, X.wn, X.pd, X.li, X.rr, X.rn, X.dr) : ModN) K) rfl ?_
        refine ev_iadd_n dX7_item_167 ?_
        refine ev_b bX7_item_168_170 (lv' := [(4, .int (nI ((popTo (hdTo S.st (1 <<< i) S.ca &&& S.ac) k) + 0))), (5, .int (nI (k))), (0, .ref 0), (1, .int (nI (i))), (2, .int (nI (3))), (3, .int (nI (winB S 1023)))]) (st' := []) (w2 := modW 0 S ((X.rf, wo, ta, ow, 0, X.sh, X.lt, X.ty, X.pl, X.nu, X.od, X.tt, X.oo, X.on, X.wn, X.pd, X.li, X.rr, X.rn, X.dr) : ModN) K) rfl ?_
        refine ev_iinc_n (x := k) (v := 1) dX7_item_170 rfl (by decide) ?_
        refine ev_eq (lv' := [(5, .int (nI (k + 1))), (4, .int (nI ((popTo (hdTo S.st (1 <<< i) S.ca &&& S.ac) k) + 0))), (0, .ref 0), (1, .int (nI (i))), (2, .int (nI (3))), (3, .int (nI (winB S 1023)))]) rfl rfl rfl ?_
        refine ev_b bX7_item_173_125 (lv' := [(5, .int (nI (k + 1))), (4, .int (nI ((popTo (hdTo S.st (1 <<< i) S.ca &&& S.ac) k) + 0))), (0, .ref 0), (1, .int (nI (i))), (2, .int (nI (3))), (3, .int (nI (winB S 1023)))]) (st' := []) (w2 := modW 0 S ((X.rf, wo, ta, ow, 0, X.sh, X.lt, X.ty, X.pl, X.nu, X.od, X.tt, X.oo, X.on, X.wn, X.pd, X.li, X.rr, X.rn, X.dr) : ModN) K) rfl ?_
        rw [show nI (k + 1) = nI ((k + 1)) from congrArg nI (by omega)]
        rw [show nI ((popTo (hdTo S.st (1 <<< i) S.ca &&& S.ac) k) + 0) = nI (popTo (hdTo S.st (1 <<< i) S.ca &&& S.ac) (k + 1)) from congrArg nI (by rw [popTo_s]; first | rw [b01_f (fun z => h145 (hb.mp z).1)] | rw [b01_f (fun z => h159 (hb.mp z).2)] | rw [b01_t (hb.mpr ⟨h145, h159⟩)])]
        exact ih125 (k + 1) (by omega) 
      · skip
        refine ev_b bX7_item_148_154 (lv' := [(5, .int (nI (k))), (4, .int (nI (popTo (hdTo S.st (1 <<< i) S.ca &&& S.ac) k))), (0, .ref 0), (1, .int (nI (i))), (2, .int (nI (3))), (3, .int (nI (winB S 1023)))]) (st' := [.int (nI (k)), .ref 5, .int (nI (popTo (hdTo S.st (1 <<< i) S.ca &&& S.ac) k))]) (w2 := modW 0 S ((X.rf, wo, ta, ow, 0, X.sh, X.lt, X.ty, X.pl, X.nu, X.od, X.tt, X.oo, X.on, X.wn, X.pd, X.li, X.rr, X.rn, X.dr) : ModN) K) rfl ?_
        refine ev_iald_n (f := S.st) dX7_item_154 rfl (by omega) (by decide) ?_
        refine ev_b bX7_item_155_156 (lv' := [(5, .int (nI (k))), (4, .int (nI (popTo (hdTo S.st (1 <<< i) S.ca &&& S.ac) k))), (0, .ref 0), (1, .int (nI (i))), (2, .int (nI (3))), (3, .int (nI (winB S 1023)))]) (st' := [.int (nI (i)), .int (nI (S.st k)), .int (nI (popTo (hdTo S.st (1 <<< i) S.ca &&& S.ac) k))]) (w2 := modW 0 S ((X.rf, wo, ta, ow, 0, X.sh, X.lt, X.ty, X.pl, X.nu, X.od, X.tt, X.oo, X.on, X.wn, X.pd, X.li, X.rr, X.rn, X.dr) : ModN) K) rfl ?_
        refine ev_callS (Yc := mX7_has) [] dX7_item_156 tw_1057 kX7_has (m_X7_has (S.st k) i (by omega) (by omega)) rfl (st := [.int (nI (popTo (hdTo S.st (1 <<< i) S.ca &&& S.ac) k))]) rfl (by decide) rfl (by decide) (Nat.le_of_ble_eq_true rfl) (Nat.le_refl _) (Nat.le_refl _) (fun r w' h => by obtain ⟨-, rfl⟩ := h; exact Nat.le_of_ble_eq_true rfl) ?_
        rintro _ _ ⟨rfl, rfl⟩
        refine ev_eq (lv' := [(5, .int (nI (k))), (4, .int (nI (popTo (hdTo S.st (1 <<< i) S.ca &&& S.ac) k))), (0, .ref 0), (1, .int (nI (i))), (2, .int (nI (3))), (3, .int (nI (winB S 1023)))]) (st' := [.int (nI (b01 ((S.st k).testBit i = true))), .int (nI (popTo (hdTo S.st (1 <<< i) S.ca &&& S.ac) k))]) (w' := modW 0 S ((X.rf, wo, ta, ow, 0, X.sh, X.lt, X.ty, X.pl, X.nu, X.od, X.tt, X.oo, X.on, X.wn, X.pd, X.li, X.rr, X.rn, X.dr) : ModN) K) rfl rfl rfl ?_
        refine ev_ifeq_b (tgt := 166) dX7_item_159 (by decide) (fun h159 => ?_) (fun h159 => ?_)
        · skip
          refine ev_b bX7_item_166_167 (lv' := [(5, .int (nI (k))), (4, .int (nI (popTo (hdTo S.st (1 <<< i) S.ca &&& S.ac) k))), (0, .ref 0), (1, .int (nI (i))), (2, .int (nI (3))), (3, .int (nI (winB S 1023)))]) (st' := [.int (nI (0)), .int (nI (popTo (hdTo S.st (1 <<< i) S.ca &&& S.ac) k))]) (w2 := modW 0 S ((X.rf, wo, ta, ow, 0, X.sh, X.lt, X.ty, X.pl, X.nu, X.od, X.tt, X.oo, X.on, X.wn, X.pd, X.li, X.rr, X.rn, X.dr) : ModN) K) rfl ?_
          refine ev_iadd_n dX7_item_167 ?_
          refine ev_b bX7_item_168_170 (lv' := [(4, .int (nI ((popTo (hdTo S.st (1 <<< i) S.ca &&& S.ac) k) + 0))), (5, .int (nI (k))), (0, .ref 0), (1, .int (nI (i))), (2, .int (nI (3))), (3, .int (nI (winB S 1023)))]) (st' := []) (w2 := modW 0 S ((X.rf, wo, ta, ow, 0, X.sh, X.lt, X.ty, X.pl, X.nu, X.od, X.tt, X.oo, X.on, X.wn, X.pd, X.li, X.rr, X.rn, X.dr) : ModN) K) rfl ?_
          refine ev_iinc_n (x := k) (v := 1) dX7_item_170 rfl (by decide) ?_
          refine ev_eq (lv' := [(5, .int (nI (k + 1))), (4, .int (nI ((popTo (hdTo S.st (1 <<< i) S.ca &&& S.ac) k) + 0))), (0, .ref 0), (1, .int (nI (i))), (2, .int (nI (3))), (3, .int (nI (winB S 1023)))]) rfl rfl rfl ?_
          refine ev_b bX7_item_173_125 (lv' := [(5, .int (nI (k + 1))), (4, .int (nI ((popTo (hdTo S.st (1 <<< i) S.ca &&& S.ac) k) + 0))), (0, .ref 0), (1, .int (nI (i))), (2, .int (nI (3))), (3, .int (nI (winB S 1023)))]) (st' := []) (w2 := modW 0 S ((X.rf, wo, ta, ow, 0, X.sh, X.lt, X.ty, X.pl, X.nu, X.od, X.tt, X.oo, X.on, X.wn, X.pd, X.li, X.rr, X.rn, X.dr) : ModN) K) rfl ?_
          rw [show nI (k + 1) = nI ((k + 1)) from congrArg nI (by omega)]
          rw [show nI ((popTo (hdTo S.st (1 <<< i) S.ca &&& S.ac) k) + 0) = nI (popTo (hdTo S.st (1 <<< i) S.ca &&& S.ac) (k + 1)) from congrArg nI (by rw [popTo_s]; first | rw [b01_f (fun z => h145 (hb.mp z).1)] | rw [b01_f (fun z => h159 (hb.mp z).2)] | rw [b01_t (hb.mpr ⟨h145, h159⟩)])]
          exact ih125 (k + 1) (by omega) 
        · skip
          refine ev_b bX7_item_162_167 (lv' := [(5, .int (nI (k))), (4, .int (nI (popTo (hdTo S.st (1 <<< i) S.ca &&& S.ac) k))), (0, .ref 0), (1, .int (nI (i))), (2, .int (nI (3))), (3, .int (nI (winB S 1023)))]) (st' := [.int (nI (1)), .int (nI (popTo (hdTo S.st (1 <<< i) S.ca &&& S.ac) k))]) (w2 := modW 0 S ((X.rf, wo, ta, ow, 0, X.sh, X.lt, X.ty, X.pl, X.nu, X.od, X.tt, X.oo, X.on, X.wn, X.pd, X.li, X.rr, X.rn, X.dr) : ModN) K) rfl ?_
          refine ev_iadd_n dX7_item_167 ?_
          refine ev_b bX7_item_168_170 (lv' := [(4, .int (nI ((popTo (hdTo S.st (1 <<< i) S.ca &&& S.ac) k) + 1))), (5, .int (nI (k))), (0, .ref 0), (1, .int (nI (i))), (2, .int (nI (3))), (3, .int (nI (winB S 1023)))]) (st' := []) (w2 := modW 0 S ((X.rf, wo, ta, ow, 0, X.sh, X.lt, X.ty, X.pl, X.nu, X.od, X.tt, X.oo, X.on, X.wn, X.pd, X.li, X.rr, X.rn, X.dr) : ModN) K) rfl ?_
          refine ev_iinc_n (x := k) (v := 1) dX7_item_170 rfl (by decide) ?_
          refine ev_eq (lv' := [(5, .int (nI (k + 1))), (4, .int (nI ((popTo (hdTo S.st (1 <<< i) S.ca &&& S.ac) k) + 1))), (0, .ref 0), (1, .int (nI (i))), (2, .int (nI (3))), (3, .int (nI (winB S 1023)))]) rfl rfl rfl ?_
          refine ev_b bX7_item_173_125 (lv' := [(5, .int (nI (k + 1))), (4, .int (nI ((popTo (hdTo S.st (1 <<< i) S.ca &&& S.ac) k) + 1))), (0, .ref 0), (1, .int (nI (i))), (2, .int (nI (3))), (3, .int (nI (winB S 1023)))]) (st' := []) (w2 := modW 0 S ((X.rf, wo, ta, ow, 0, X.sh, X.lt, X.ty, X.pl, X.nu, X.od, X.tt, X.oo, X.on, X.wn, X.pd, X.li, X.rr, X.rn, X.dr) : ModN) K) rfl ?_
          rw [show nI (k + 1) = nI ((k + 1)) from congrArg nI (by omega)]
          rw [show nI ((popTo (hdTo S.st (1 <<< i) S.ca &&& S.ac) k) + 1) = nI (popTo (hdTo S.st (1 <<< i) S.ca &&& S.ac) (k + 1)) from congrArg nI (by rw [popTo_s]; first | rw [b01_f (fun z => h145 (hb.mp z).1)] | rw [b01_f (fun z => h159 (hb.mp z).2)] | rw [b01_t (hb.mpr ⟨h145, h159⟩)])]
          exact ih125 (k + 1) (by omega) 
  refine ev_pick (lv' := [(5, .int (nI (0))), (4, .int (nI (0))), (0, .ref 0), (1, .int (nI (i))), (2, .int (nI (3))), (3, .int (nI (winB S 1023)))]) rfl ?_
  exact L125 S.ca 0 (by omega) 
