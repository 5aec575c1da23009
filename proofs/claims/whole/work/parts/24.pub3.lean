/-! ===== public methods, third part ===== -/
theorem b01_congr {p q : Prop} [Decidable p] [Decidable q] (h : p ↔ q) : b01 p = b01 q := by
  unfold b01
  by_cases hp : p
  · rw [if_pos hp, if_pos (h.mp hp)]
  · rw [if_neg hp, if_neg (fun z => hp (h.mpr z))]
theorem has_iff {O : OutN} {S : SaleN} {bits : Nat} (hS : SaleOK S) (hK : KeysL O (keysOf S (packsN S S.ca))) : bits ∈ (List.range O.sz).map (fun k => bidsN (O.ke k)) ↔ (bits ∈ packsN S S.ca ∧ allS S bits) := by
  constructor
  · intro h
    obtain ⟨k, hk, e⟩ := List.mem_map.mp h
    have hk2 := List.mem_range.mp hk
    rw [hK.1] at hk2
    have e1 : (keysOf S (packsN S S.ca))[k]? = some (keysOf S (packsN S S.ca))[k] := List.getElem?_eq_getElem hk2
    have e2 := hK.2 k _ e1
    obtain ⟨m, hm, e3⟩ := mem_keys.mp (List.getElem_mem hk2)
    have e4 : bidsN (O.ke k) = m := by
      rw [e2, e3]
      exact key_bids (outc_lt hS hm)
    have e5 : m = bits := by rw [← e4]; exact e
    rw [← e5]
    exact hm
  · intro h
    have h1 : keyS S bits ∈ keysOf S (packsN S S.ca) := mem_keys.mpr ⟨bits, h, rfl⟩
    obtain ⟨k, e1⟩ := List.mem_iff_getElem?.mp h1
    have hk : k < O.sz := by
      rw [hK.1]
      exact (List.getElem?_eq_some_iff.mp e1).1
    refine List.mem_map.mpr ⟨k, List.mem_range.mpr hk, ?_⟩
    show bidsN (O.ke k) = bits
    rw [hK.2 k _ e1]
    exact key_bids (outc_lt hS h)

set_option maxHeartbeats 4000000 in
set_option maxRecDepth 100000 in
theorem m_X6_isEither_0 {l : Launch} {E : XE}   : MetE l E mX6_isEither (0) 0 0 [.int (nI (0))] ([]) (fun r w' => r = some (.int (nI (1))) ∧ w' = []) := by
  refine MetE.of (by decide +kernel) (Nat.le_of_ble_eq_true rfl) ?_
  refine ev_eq (lv' := [(0, .int (nI (0)))]) (st' := []) (w' := []) rfl rfl rfl ?_
  refine ev_b bX6_isEither_0_1 (lv' := [(0, .int (nI (0)))]) (st' := [.int (nI (0))]) (w2 := []) rfl ?_
  refine ev_if_eq_n (tgt := 9) (by decide) dX6_isEither_1 (by decide) (fun h1 => ?_) (fun h1 => (by exfalso; omega))
  refine ev_b bX6_isEither_9_14 (lv' := [(0, .int (nI (0)))]) (st' := [.int (nI (1))]) (w2 := []) rfl ?_
  exact ev_zret dX6_isEither_14 rfl rfl (Nat.le_of_ble_eq_true rfl) (Nat.le_refl _) (Nat.le_refl _) ⟨rfl, rfl⟩
set_option maxHeartbeats 4000000 in
set_option maxRecDepth 100000 in
theorem m_X6_isEither_1 {l : Launch} {E : XE}   : MetE l E mX6_isEither (0) 0 0 [.int (nI (1))] ([]) (fun r w' => r = some (.int (nI (1))) ∧ w' = []) := by
  refine MetE.of (by decide +kernel) (Nat.le_of_ble_eq_true rfl) ?_
  refine ev_eq (lv' := [(0, .int (nI (1)))]) (st' := []) (w' := []) rfl rfl rfl ?_
  refine ev_b bX6_isEither_0_1 (lv' := [(0, .int (nI (1)))]) (st' := [.int (nI (1))]) (w2 := []) rfl ?_
  refine ev_if_eq_n (tgt := 9) (by decide) dX6_isEither_1 (by decide) (fun h1 => (by exfalso; omega)) (fun h1 => ?_)
  refine ev_b bX6_isEither_4_6 (lv' := [(0, .int (nI (1)))]) (st' := [.int (nI (1)), .int (nI (1))]) (w2 := []) rfl ?_
  refine ev_icmp_ne_n (tgt := 13) (by decide) (by decide) dX6_isEither_6 (by decide) (fun h6 => (by exfalso; omega)) (fun h6 => ?_)
  refine ev_b bX6_isEither_9_14 (lv' := [(0, .int (nI (1)))]) (st' := [.int (nI (1))]) (w2 := []) rfl ?_
  exact ev_zret dX6_isEither_14 rfl rfl (Nat.le_of_ble_eq_true rfl) (Nat.le_refl _) (Nat.le_refl _) ⟨rfl, rfl⟩
set_option maxHeartbeats 4000000 in
set_option maxRecDepth 100000 in
theorem m_X6_isHow_0 {l : Launch} {E : XE}   : MetE l E mX6_isHow (0) 0 0 [.int (nI (0))] ([]) (fun r w' => r = some (.int (nI (1))) ∧ w' = []) := by
  refine MetE.of (by decide +kernel) (Nat.le_of_ble_eq_true rfl) ?_
  refine ev_eq (lv' := [(0, .int (nI (0)))]) (st' := []) (w' := []) rfl rfl rfl ?_
  refine ev_b bX6_isHow_0_1 (lv' := [(0, .int (nI (0)))]) (st' := [.int (nI (0))]) (w2 := []) rfl ?_
  refine ev_if_lt_n (tgt := 13) (by decide) dX6_isHow_1 (by decide) (fun h1 => (by exfalso; omega)) (fun h1 => ?_)
  refine ev_b bX6_isHow_4_6 (lv' := [(0, .int (nI (0)))]) (st' := [.int (nI (2)), .int (nI (0))]) (w2 := []) rfl ?_
  refine ev_icmp_gt_n (tgt := 13) (by decide) (by decide) dX6_isHow_6 (by decide) (fun h6 => (by exfalso; omega)) (fun h6 => ?_)
  refine ev_b bX6_isHow_9_14 (lv' := [(0, .int (nI (0)))]) (st' := [.int (nI (1))]) (w2 := []) rfl ?_
  exact ev_zret dX6_isHow_14 rfl rfl (Nat.le_of_ble_eq_true rfl) (Nat.le_refl _) (Nat.le_refl _) ⟨rfl, rfl⟩
set_option maxHeartbeats 4000000 in
set_option maxRecDepth 100000 in
theorem m_X6_isHow_1 {l : Launch} {E : XE}   : MetE l E mX6_isHow (0) 0 0 [.int (nI (1))] ([]) (fun r w' => r = some (.int (nI (1))) ∧ w' = []) := by
  refine MetE.of (by decide +kernel) (Nat.le_of_ble_eq_true rfl) ?_
  refine ev_eq (lv' := [(0, .int (nI (1)))]) (st' := []) (w' := []) rfl rfl rfl ?_
  refine ev_b bX6_isHow_0_1 (lv' := [(0, .int (nI (1)))]) (st' := [.int (nI (1))]) (w2 := []) rfl ?_
  refine ev_if_lt_n (tgt := 13) (by decide) dX6_isHow_1 (by decide) (fun h1 => (by exfalso; omega)) (fun h1 => ?_)
  refine ev_b bX6_isHow_4_6 (lv' := [(0, .int (nI (1)))]) (st' := [.int (nI (2)), .int (nI (1))]) (w2 := []) rfl ?_
  refine ev_icmp_gt_n (tgt := 13) (by decide) (by decide) dX6_isHow_6 (by decide) (fun h6 => (by exfalso; omega)) (fun h6 => ?_)
  refine ev_b bX6_isHow_9_14 (lv' := [(0, .int (nI (1)))]) (st' := [.int (nI (1))]) (w2 := []) rfl ?_
  exact ev_zret dX6_isHow_14 rfl rfl (Nat.le_of_ble_eq_true rfl) (Nat.le_refl _) (Nat.le_refl _) ⟨rfl, rfl⟩
set_option maxHeartbeats 4000000 in
set_option maxRecDepth 100000 in
theorem m_X6_isHow_2 {l : Launch} {E : XE}   : MetE l E mX6_isHow (0) 0 0 [.int (nI (2))] ([]) (fun r w' => r = some (.int (nI (1))) ∧ w' = []) := by
  refine MetE.of (by decide +kernel) (Nat.le_of_ble_eq_true rfl) ?_
  refine ev_eq (lv' := [(0, .int (nI (2)))]) (st' := []) (w' := []) rfl rfl rfl ?_
  refine ev_b bX6_isHow_0_1 (lv' := [(0, .int (nI (2)))]) (st' := [.int (nI (2))]) (w2 := []) rfl ?_
  refine ev_if_lt_n (tgt := 13) (by decide) dX6_isHow_1 (by decide) (fun h1 => (by exfalso; omega)) (fun h1 => ?_)
  refine ev_b bX6_isHow_4_6 (lv' := [(0, .int (nI (2)))]) (st' := [.int (nI (2)), .int (nI (2))]) (w2 := []) rfl ?_
  refine ev_icmp_gt_n (tgt := 13) (by decide) (by decide) dX6_isHow_6 (by decide) (fun h6 => (by exfalso; omega)) (fun h6 => ?_)
  refine ev_b bX6_isHow_9_14 (lv' := [(0, .int (nI (2)))]) (st' := [.int (nI (1))]) (w2 := []) rfl ?_
  exact ev_zret dX6_isHow_14 rfl rfl (Nat.le_of_ble_eq_true rfl) (Nat.le_refl _) (Nat.le_refl _) ⟨rfl, rfl⟩
theorem bX6_bidsOrWorth_0_1 {l : Launch} {E : XE} : Snd l E mX6_bidsOrWorth 0 1 (xs [x_iload 1]) := Snd.cons (snd_iload_n (i := 1) dX6_bidsOrWorth_0 rfl) Snd.nil
theorem bX6_bidsOrWorth_4_5 {l : Launch} {E : XE} : Snd l E mX6_bidsOrWorth 4 5 (xs [x_iload 0]) := Snd.cons (snd_iload_n (i := 0) dX6_bidsOrWorth_4 rfl) Snd.nil
theorem bX6_bidsOrWorth_8_15 {l : Launch} {E : XE} : Snd l E mX6_bidsOrWorth 8 15 (xs [x_id]) := Snd.cons (snd_goto (tgt := 15) dX6_bidsOrWorth_8 (by decide)) Snd.nil
set_option maxHeartbeats 4000000 in
set_option maxRecDepth 100000 in
theorem m_X6_bidsOrWorth_0 {l : Launch} {E : XE} (x : Nat)  : MetE l E mX6_bidsOrWorth (1) 0 0 [.int (nI (x)), .int (nI (0))] ([]) (fun r w' => r = some (.int (nI (bidsN x))) ∧ w' = []) := by
  refine MetE.of (by decide +kernel) (Nat.le_of_ble_eq_true rfl) ?_
  refine ev_eq (lv' := [(0, .int (nI (x))), (1, .int (nI (0)))]) (st' := []) (w' := []) rfl rfl rfl ?_
  refine ev_b bX6_bidsOrWorth_0_1 (lv' := [(0, .int (nI (x))), (1, .int (nI (0)))]) (st' := [.int (nI (0))]) (w2 := []) rfl ?_
  refine ev_if_ne_n (tgt := 11) (by decide) dX6_bidsOrWorth_1 (by decide) (fun h1 => (by exfalso; omega)) (fun h1 => ?_)
  refine ev_b bX6_bidsOrWorth_4_5 (lv' := [(0, .int (nI (x))), (1, .int (nI (0)))]) (st' := [.int (nI (x))]) (w2 := []) rfl ?_
  refine ev_callSN (Yc := mX1_bidsIn) [] dX6_bidsOrWorth_5 tn_555 kX1_bidsIn (m_X1_bidsIn x) rfl (st := []) rfl (by decide) rfl (by decide) (Nat.le_of_ble_eq_true rfl) (Nat.le_refl _) (Nat.le_refl _) (fun r w' h => by obtain ⟨-, rfl⟩ := h; exact Nat.le_of_ble_eq_true rfl) ?_
  rintro _ _ ⟨rfl, rfl⟩
  refine ev_eq (lv' := [(0, .int (nI (x))), (1, .int (nI (0)))]) (st' := [.int (nI (bidsN x))]) (w' := []) rfl rfl rfl ?_
  refine ev_b bX6_bidsOrWorth_8_15 (lv' := [(0, .int (nI (x))), (1, .int (nI (0)))]) (st' := [.int (nI (bidsN x))]) (w2 := []) rfl ?_
  exact ev_iret dX6_bidsOrWorth_15 rfl (Nat.le_of_ble_eq_true rfl) (Nat.le_refl _) (Nat.le_refl _) ⟨rfl, rfl⟩
theorem bX6_bidsOrWorth_11_12 {l : Launch} {E : XE} : Snd l E mX6_bidsOrWorth 11 12 (xs [x_iload 0]) := Snd.cons (snd_iload_n (i := 0) dX6_bidsOrWorth_11 rfl) Snd.nil
set_option maxHeartbeats 4000000 in
set_option maxRecDepth 100000 in
theorem m_X6_bidsOrWorth_1 {l : Launch} {E : XE} (x : Nat) (hk1 : x < 2147483648) (hk2 : x >>> 14 ≤ 1023) : MetE l E mX6_bidsOrWorth (1) 0 0 [.int (nI (x)), .int (nI (1))] ([]) (fun r w' => r = some (.int (nI (worthK x))) ∧ w' = []) := by
  refine MetE.of (by decide +kernel) (Nat.le_of_ble_eq_true rfl) ?_
  refine ev_eq (lv' := [(0, .int (nI (x))), (1, .int (nI (1)))]) (st' := []) (w' := []) rfl rfl rfl ?_
  refine ev_b bX6_bidsOrWorth_0_1 (lv' := [(0, .int (nI (x))), (1, .int (nI (1)))]) (st' := [.int (nI (1))]) (w2 := []) rfl ?_
  refine ev_if_ne_n (tgt := 11) (by decide) dX6_bidsOrWorth_1 (by decide) (fun h1 => ?_) (fun h1 => (by exfalso; omega))
  refine ev_b bX6_bidsOrWorth_11_12 (lv' := [(0, .int (nI (x))), (1, .int (nI (1)))]) (st' := [.int (nI (x))]) (w2 := []) rfl ?_
  refine ev_callSN (Yc := mX1_worthIn) [] dX6_bidsOrWorth_12 tn_633 kX1_worthIn (m_X1_worthIn x hk1 hk2) rfl (st := []) rfl (by decide) rfl (by decide) (Nat.le_of_ble_eq_true rfl) (Nat.le_refl _) (Nat.le_refl _) (fun r w' h => by obtain ⟨-, rfl⟩ := h; exact Nat.le_of_ble_eq_true rfl) ?_
  rintro _ _ ⟨rfl, rfl⟩
  refine ev_eq (lv' := [(0, .int (nI (x))), (1, .int (nI (1)))]) (st' := [.int (nI (worthK x))]) (w' := []) rfl rfl rfl ?_
  exact ev_iret dX6_bidsOrWorth_15 rfl (Nat.le_of_ble_eq_true rfl) (Nat.le_refl _) (Nat.le_refl _) ⟨rfl, rfl⟩
theorem bX6_may_0_1 {l : Launch} {E : XE} : Snd l E mX6_may 0 1 (xs [x_iload 1]) := Snd.cons (snd_iload_n (i := 1) dX6_may_0 rfl) Snd.nil
theorem bX6_may_4_7 {l : Launch} {E : XE} : Snd l E mX6_may 4 7 (xs [x_aload 0, x_push (.int (-4))]) := Snd.cons (snd_aload_n (i := 0) dX6_may_4 rfl) (Snd.cons (snd_bipush (v := -4) dX6_may_5 (by decide)) Snd.nil)
set_option maxHeartbeats 4000000 in
set_option maxRecDepth 100000 in
theorem p_may_4 {l : Launch} {E : XE} (T : TopN) (S P U : SaleN) (O : OutN) (B : BillN) (Q : SeaN) (C : ScrN) (R : PrtN) (tl rf : Nat → Nat) (z : Int) (hS : SaleOK S) (hQ : Q.fd < 2147483648) (rz : -2147483648 ≤ z ∧ z < 2147483648) (h : z < 0) : MetE l E mX6_may (1) 0 0 [.ref 0, .int (zI (z))] (compW T S P U O B Q C R tl rf) (CP T S P (C.lt) (C.sz) tl (up rf 4 (rf 4 + 1)) (some (.int (-4)))) := by
  refine MetE.of (by decide +kernel) (Nat.le_of_ble_eq_true rfl) ?_
  have hca := hS.1
  have hpw := pow_ca hS
  have hac := ac_lt hS
  
  refine ev_eq (lv' := [(0, .ref 0), (1, .int (zI (z)))]) (st' := []) (w' := compW T S P U O B Q C R tl rf) rfl rfl rfl ?_
  refine ev_b bX6_may_0_1 (lv' := [(0, .ref 0), (1, .int (zI (z)))]) (st' := [.int (zI (z))]) (w2 := compW T S P U O B Q C R tl rf) rfl ?_
  refine ev_if_ge_z (tgt := 11) (by constructor <;> omega) dX6_may_1 (by decide) (fun h1 => (by exfalso; omega)) (fun h1 => ?_)
  refine ev_b bX6_may_4_7 (lv' := [(0, .ref 0), (1, .int (zI (z)))]) (st' := [.int (-4), .ref 0]) (w2 := compW T S P U O B Q C R tl rf) rfl ?_
  refine ev_callV (Yc := mX6_refuse) (rng 0 49) dX6_may_7 tw_248 kX6_refuse (m_X6_refuse_4 T S P U O B Q C R tl rf) rfl (st := []) rfl rfl rfl (by decide) (same_hw (compW T S P U O B Q C R tl rf)) (by decide) (Nat.le_of_ble_eq_true rfl) (Nat.le_refl _) (Nat.le_refl _) (fun r w' h => by obtain ⟨-, rfl⟩ := h; exact Nat.le_of_ble_eq_true rfl) ?_
  rintro _ _ ⟨rfl, rfl⟩
  refine ev_eq (lv' := [(0, .ref 0), (1, .int (zI (z)))]) (st' := [.int (-4)]) (w' := compW T S P U O B Q C R tl ((up rf 4 (rf 4 + 1)))) rfl rfl (same_xp (compW T S P U O B Q C R tl rf) (compW T S P U O B Q C R tl ((up rf 4 (rf 4 + 1)))) rfl) ?_
  exact ev_iret dX6_may_10 rfl (Nat.le_refl 49) (Nat.le_refl _) (Nat.le_refl _) ⟨rfl, _, _, _, _, _, _, rfl, hQ, rfl, rfl⟩
theorem bX6_may_11_13 {l : Launch} {E : XE} : Snd l E mX6_may 11 13 (xs [x_aload 0, x_iload 1]) := Snd.cons (snd_aload_n (i := 0) dX6_may_11 rfl) (Snd.cons (snd_iload_n (i := 1) dX6_may_12 rfl) Snd.nil)
theorem bX6_may_19_22 {l : Launch} {E : XE} : Snd l E mX6_may 19 22 (xs [x_aload 0, x_push (.int (-6))]) := Snd.cons (snd_aload_n (i := 0) dX6_may_19 rfl) (Snd.cons (snd_bipush (v := -6) dX6_may_20 (by decide)) Snd.nil)
set_option maxHeartbeats 4000000 in
set_option maxRecDepth 100000 in
theorem p_may_6 {l : Launch} {E : XE} (T : TopN) (S P U : SaleN) (O : OutN) (B : BillN) (Q : SeaN) (C : ScrN) (R : PrtN) (tl rf : Nat → Nat) (x : Nat) (hS : SaleOK S) (hQ : Q.fd < 2147483648) (hx : x < 2147483648) (h : 1 <<< S.ca ≤ x) : MetE l E mX6_may (1) 0 0 [.ref 0, .int (nI (x))] (compW T S P U O B Q C R tl rf) (CP T S P (C.lt) (C.sz) tl (up rf 6 (rf 6 + 1)) (some (.int (-6)))) := by
  refine MetE.of (by decide +kernel) (Nat.le_of_ble_eq_true rfl) ?_
  have hca := hS.1
  have hpw := pow_ca hS
  have hac := ac_lt hS
  
  refine ev_eq (lv' := [(0, .ref 0), (1, .int (nI (x)))]) (st' := []) (w' := compW T S P U O B Q C R tl rf) rfl rfl rfl ?_
  refine ev_b bX6_may_0_1 (lv' := [(0, .ref 0), (1, .int (nI (x)))]) (st' := [.int (nI (x))]) (w2 := compW T S P U O B Q C R tl rf) rfl ?_
  refine ev_if_ge_n (tgt := 11) (by omega) dX6_may_1 (by decide) (fun h1 => ?_) (fun h1 => (by exfalso; omega))
  refine ev_b bX6_may_11_13 (lv' := [(0, .ref 0), (1, .int (nI (x)))]) (st' := [.int (nI (x)), .ref 0]) (w2 := compW T S P U O B Q C R tl rf) rfl ?_
  refine ev_callV (Yc := mX6_areBids) (rng 0 49) dX6_may_13 tw_617 kX6_areBids (m_X6_areBids T S P U O B Q C R tl rf x hS (by omega)) rfl (st := []) rfl rfl rfl (by decide) (same_hw (compW T S P U O B Q C R tl rf)) (by decide) (Nat.le_of_ble_eq_true rfl) (Nat.le_refl _) (Nat.le_refl _) (fun r w' h => by obtain ⟨-, rfl⟩ := h; exact Nat.le_of_ble_eq_true rfl) ?_
  rintro _ _ ⟨rfl, rfl⟩
  refine ev_eq (lv' := [(0, .ref 0), (1, .int (nI (x)))]) (st' := [.int (nI (b01 (x < 1 <<< S.ca)))]) (w' := compW T S P U O B Q C R tl rf) rfl rfl (same_xp (compW T S P U O B Q C R tl rf) (compW T S P U O B Q C R tl rf) rfl) ?_
  refine ev_ifne_b (tgt := 26) dX6_may_16 (by decide) (fun h16 => (by exfalso; omega)) (fun h16 => ?_)
  refine ev_b bX6_may_19_22 (lv' := [(0, .ref 0), (1, .int (nI (x)))]) (st' := [.int (-6), .ref 0]) (w2 := compW T S P U O B Q C R tl rf) rfl ?_
  refine ev_callV (Yc := mX6_refuse) (rng 0 49) dX6_may_22 tw_248 kX6_refuse (m_X6_refuse_6 T S P U O B Q C R tl rf) rfl (st := []) rfl rfl rfl (by decide) (same_hw (compW T S P U O B Q C R tl rf)) (by decide) (Nat.le_of_ble_eq_true rfl) (Nat.le_refl _) (Nat.le_refl _) (fun r w' h => by obtain ⟨-, rfl⟩ := h; exact Nat.le_of_ble_eq_true rfl) ?_
  rintro _ _ ⟨rfl, rfl⟩
  refine ev_eq (lv' := [(0, .ref 0), (1, .int (nI (x)))]) (st' := [.int (-6)]) (w' := compW T S P U O B Q C R tl ((up rf 6 (rf 6 + 1)))) rfl rfl (same_xp (compW T S P U O B Q C R tl rf) (compW T S P U O B Q C R tl ((up rf 6 (rf 6 + 1)))) rfl) ?_
  exact ev_iret dX6_may_25 rfl (Nat.le_refl 49) (Nat.le_refl _) (Nat.le_refl _) ⟨rfl, _, _, _, _, _, _, rfl, hQ, rfl, rfl⟩
theorem bX6_may_26_34 {l : Launch} {E : XE} : Snd l E mX6_may 26 34 (xs [x_aload 0, x_get 7 3, x_aload 0, x_get 7 0]) := Snd.cons (snd_aload_n (i := 0) dX6_may_26 rfl) (Snd.cons (snd_get (ci := 7) (k := 3) dX6_may_27 rfl inX6 (by decide) tw_210) (Snd.cons (snd_aload_n (i := 0) dX6_may_30 rfl) (Snd.cons (snd_get (ci := 7) (k := 0) dX6_may_31 rfl inX6 (by decide) tw_207) Snd.nil)))
theorem bX6_may_37_42 {l : Launch} {E : XE} : Snd l E mX6_may 37 42 (xs [x_aload 0, x_get 7 3, x_iload 1]) := Snd.cons (snd_aload_n (i := 0) dX6_may_37 rfl) (Snd.cons (snd_get (ci := 7) (k := 3) dX6_may_38 rfl inX6 (by decide) tw_210) (Snd.cons (snd_iload_n (i := 1) dX6_may_41 rfl) Snd.nil))
theorem bX6_may_52_53 {l : Launch} {E : XE} : Snd l E mX6_may 52 53 (xs [x_push (.int (nI 0))]) := Snd.cons (snd_iconst (v := nI 0) dX6_may_52 (by decide)) Snd.nil
theorem bX6_may_48_53 {l : Launch} {E : XE} : Snd l E mX6_may 48 53 (xs [x_push (.int (nI 1)), x_id]) := Snd.cons (snd_iconst (v := nI 1) dX6_may_48 (by decide)) (Snd.cons (snd_goto (tgt := 53) dX6_may_49 (by decide)) Snd.nil)
set_option maxHeartbeats 4000000 in
set_option maxRecDepth 100000 in
theorem p_may_ok {l : Launch} {E : XE} (T : TopN) (S P U : SaleN) (O : OutN) (B : BillN) (Q : SeaN) (C : ScrN) (R : PrtN) (tl rf : Nat → Nat) (x : Nat) (hS : SaleOK S) (hQ : Q.fd < 2147483648) (hx : x < 1 <<< S.ca) : MetE l E mX6_may (4) 0 0 [.ref 0, .int (nI (x))] (compW T S P U O B Q C R tl rf) (CP T S P (C.lt) (C.sz) tl rf (some (.int (nI (b01 (x ∈ packsN S S.ca ∧ allS S x)))))) := by
  refine MetE.of (by decide +kernel) (Nat.le_of_ble_eq_true rfl) ?_
  have hca := hS.1
  have hpw := pow_ca hS
  have hac := ac_lt hS
  have hsh : 1 <<< S.ca ≤ 1024 := by rw [Nat.one_shiftLeft]; exact hpw
  refine ev_eq (lv' := [(0, .ref 0), (1, .int (nI (x)))]) (st' := []) (w' := compW T S P U O B Q C R tl rf) rfl rfl rfl ?_
  refine ev_b bX6_may_0_1 (lv' := [(0, .ref 0), (1, .int (nI (x)))]) (st' := [.int (nI (x))]) (w2 := compW T S P U O B Q C R tl rf) rfl ?_
  refine ev_if_ge_n (tgt := 11) (by omega) dX6_may_1 (by decide) (fun h1 => ?_) (fun h1 => (by exfalso; omega))
  refine ev_b bX6_may_11_13 (lv' := [(0, .ref 0), (1, .int (nI (x)))]) (st' := [.int (nI (x)), .ref 0]) (w2 := compW T S P U O B Q C R tl rf) rfl ?_
  refine ev_callV (Yc := mX6_areBids) (rng 0 49) dX6_may_13 tw_617 kX6_areBids (m_X6_areBids T S P U O B Q C R tl rf x hS (by omega)) rfl (st := []) rfl rfl rfl (by decide) (same_hw (compW T S P U O B Q C R tl rf)) (by decide) (Nat.le_of_ble_eq_true rfl) (Nat.le_refl _) (Nat.le_refl _) (fun r w' h => by obtain ⟨-, rfl⟩ := h; exact Nat.le_of_ble_eq_true rfl) ?_
  rintro _ _ ⟨rfl, rfl⟩
  refine ev_eq (lv' := [(0, .ref 0), (1, .int (nI (x)))]) (st' := [.int (nI (b01 (x < 1 <<< S.ca)))]) (w' := compW T S P U O B Q C R tl rf) rfl rfl (same_xp (compW T S P U O B Q C R tl rf) (compW T S P U O B Q C R tl rf) rfl) ?_
  refine ev_ifne_b (tgt := 26) dX6_may_16 (by decide) (fun h16 => ?_) (fun h16 => (by exfalso; omega))
  refine ev_b bX6_may_26_34 (lv' := [(0, .ref 0), (1, .int (nI (x)))]) (st' := [.ref 1, .ref 25]) (w2 := compW T S P U O B Q C R tl rf) rfl ?_
  refine ev_callVN (Yc := mX1_gather) [25, 26, 27, 28, 29, 1, 2, 3, 4, 5, 6, 7, 8] dX6_may_34 tn_497 kX1_gather (m_X1_gather O S hS) rfl (st := []) rfl rfl rfl (by decide) hw_comp__25_1 (by decide) (Nat.le_of_ble_eq_true rfl) (Nat.le_refl _) (Nat.le_refl _) (fun r w' h => by obtain ⟨-, O', rfl, -⟩ := h; exact Nat.le_of_ble_eq_true rfl) ?_
  rintro _ _ ⟨rfl, O1, rfl, hK1⟩
  refine ev_eq (lv' := [(0, .ref 0), (1, .int (nI (x)))]) (st' := []) (w' := compW T S P U O1 B Q C R tl rf) rfl rfl xp_comp__25_1 ?_
  refine ev_b bX6_may_37_42 (lv' := [(0, .ref 0), (1, .int (nI (x)))]) (st' := [.int (nI (x)), .ref 25]) (w2 := compW T S P U O1 B Q C R tl rf) rfl ?_
  refine ev_callVN (Yc := mX1_has) [25, 26, 27, 28, 29] dX6_may_42 tn_621 kX1_has (m_X1_has O1 x (keys_ok hS hK1) (by omega)) rfl (st := []) rfl rfl rfl (by decide) hw_comp__25 (by decide) (Nat.le_of_ble_eq_true rfl) (Nat.le_refl _) (Nat.le_refl _) (fun r w' h => by obtain ⟨-, rfl⟩ := h; exact Nat.le_of_ble_eq_true rfl) ?_
  rintro _ _ ⟨rfl, rfl⟩
  refine ev_eq (lv' := [(0, .ref 0), (1, .int (nI (x)))]) (st' := [.int (nI (b01 (x ∈ (List.range O1.sz).map (fun k => bidsN (O1.ke k)))))]) (w' := compW T S P U O1 B Q C R tl rf) rfl rfl xp_comp__25 ?_
  refine ev_top (y := (nI (b01 (x ∈ packsN S S.ca ∧ allS S x)))) (by exact congrArg nI (b01_congr (has_iff hS hK1))) ?_
  refine ev_ifeq_b (tgt := 52) dX6_may_45 (by decide) (fun h45 => ?_) (fun h45 => ?_)
  · skip
    refine ev_b bX6_may_52_53 (lv' := [(0, .ref 0), (1, .int (nI (x)))]) (st' := [.int (nI (0))]) (w2 := compW T S P U O1 B Q C R tl rf) rfl ?_
    exact ev_iret dX6_may_53 rfl (Nat.le_refl 49) (Nat.le_refl _) (Nat.le_refl _) ⟨by first | exact congrArg (fun n => some (Value.int (nI n))) (if_pos h45).symm | exact congrArg (fun n => some (Value.int (nI n))) (if_neg h45).symm, _, _, _, _, _, _, rfl, hQ, rfl, rfl⟩
  · skip
    refine ev_b bX6_may_48_53 (lv' := [(0, .ref 0), (1, .int (nI (x)))]) (st' := [.int (nI (1))]) (w2 := compW T S P U O1 B Q C R tl rf) rfl ?_
    exact ev_iret dX6_may_53 rfl (Nat.le_refl 49) (Nat.le_refl _) (Nat.le_refl _) ⟨by first | exact congrArg (fun n => some (Value.int (nI n))) (if_pos h45).symm | exact congrArg (fun n => some (Value.int (nI n))) (if_neg h45).symm, _, _, _, _, _, _, rfl, hQ, rfl, rfl⟩
theorem bX6_winners_0_1 {l : Launch} {E : XE} : Snd l E mX6_winners 0 1 (xs [x_iload 1]) := Snd.cons (snd_iload_n (i := 1) dX6_winners_0 rfl) Snd.nil
theorem bX6_winners_78_81 {l : Launch} {E : XE} : Snd l E mX6_winners 78 81 (xs [x_aload 0, x_push (.int (-2))]) := Snd.cons (snd_aload_n (i := 0) dX6_winners_78 rfl) (Snd.cons (snd_bipush (v := -2) dX6_winners_79 (by decide)) Snd.nil)
set_option maxHeartbeats 4000000 in
set_option maxRecDepth 100000 in
theorem p_winners_2 {l : Launch} {E : XE} (T : TopN) (S P U : SaleN) (O : OutN) (B : BillN) (Q : SeaN) (C : ScrN) (R : PrtN) (tl rf : Nat → Nat) (z : Int) (hS : SaleOK S) (hQ : Q.fd < 2147483648) (rz : -2147483648 ≤ z ∧ z < 2147483648) (h : z < 0 ∨ 3 < z) : MetE l E mX6_winners (1) 0 0 [.ref 0, .int (zI (z))] (compW T S P U O B Q C R tl rf) (CP T S P (C.lt) (C.sz) tl (up rf 2 (rf 2 + 1)) (some (.int (-2)))) := by
  refine MetE.of (by decide +kernel) (Nat.le_of_ble_eq_true rfl) ?_
  have hca := hS.1
  have hpw := pow_ca hS
  have hac := ac_lt hS
  
  refine ev_eq (lv' := [(0, .ref 0), (1, .int (zI (z)))]) (st' := []) (w' := compW T S P U O B Q C R tl rf) rfl rfl rfl ?_
  refine ev_b bX6_winners_0_1 (lv' := [(0, .ref 0), (1, .int (zI (z)))]) (st' := [.int (zI (z))]) (w2 := compW T S P U O B Q C R tl rf) rfl ?_
  refine ev_tableOut (tgt := 78) dX6_winners_1 (by rw [zI_toInt (by omega) (by omega)]; omega) (by decide) ?_
  refine ev_b bX6_winners_78_81 (lv' := [(0, .ref 0), (1, .int (zI (z)))]) (st' := [.int (-2), .ref 0]) (w2 := compW T S P U O B Q C R tl rf) rfl ?_
  refine ev_callV (Yc := mX6_refuse) (rng 0 49) dX6_winners_81 tw_248 kX6_refuse (m_X6_refuse_2 T S P U O B Q C R tl rf) rfl (st := []) rfl rfl rfl (by decide) (same_hw (compW T S P U O B Q C R tl rf)) (by decide) (Nat.le_of_ble_eq_true rfl) (Nat.le_refl _) (Nat.le_refl _) (fun r w' h => by obtain ⟨-, rfl⟩ := h; exact Nat.le_of_ble_eq_true rfl) ?_
  rintro _ _ ⟨rfl, rfl⟩
  refine ev_eq (lv' := [(0, .ref 0), (1, .int (zI (z)))]) (st' := [.int (-2)]) (w' := compW T S P U O B Q C R tl ((up rf 2 (rf 2 + 1)))) rfl rfl (same_xp (compW T S P U O B Q C R tl rf) (compW T S P U O B Q C R tl ((up rf 2 (rf 2 + 1)))) rfl) ?_
  exact ev_iret dX6_winners_84 rfl (Nat.le_refl 49) (Nat.le_refl _) (Nat.le_refl _) ⟨rfl, _, _, _, _, _, _, rfl, hQ, rfl, rfl⟩
theorem bX6_winners_32_37 {l : Launch} {E : XE} : Snd l E mX6_winners 32 37 (xs [x_aload 0, x_aload 0, x_get 7 0]) := Snd.cons (snd_aload_n (i := 0) dX6_winners_32 rfl) (Snd.cons (snd_aload_n (i := 0) dX6_winners_33 rfl) (Snd.cons (snd_get (ci := 7) (k := 0) dX6_winners_34 rfl inX6 (by decide) tw_207) Snd.nil))
set_option maxHeartbeats 4000000 in
set_option maxRecDepth 100000 in
theorem p_winners_w0 {l : Launch} {E : XE} (T : TopN) (S P U : SaleN) (O : OutN) (B : BillN) (Q : SeaN) (C : ScrN) (R : PrtN) (tl rf : Nat → Nat)  (hS : SaleOK S) (hQ : Q.fd < 2147483648)  : MetE l E mX6_winners (5) 0 0 [.ref 0, .int (nI (0))] (compW T S P U O B Q C R tl rf) (CP T S P (C.lt) (C.sz) tl rf (some (.int (nI (winB S 1023))))) := by
  refine MetE.of (by decide +kernel) (Nat.le_of_ble_eq_true rfl) ?_
  have hca := hS.1
  have hpw := pow_ca hS
  have hac := ac_lt hS
  
  refine ev_eq (lv' := [(0, .ref 0), (1, .int (nI (0)))]) (st' := []) (w' := compW T S P U O B Q C R tl rf) rfl rfl rfl ?_
  refine ev_b bX6_winners_0_1 (lv' := [(0, .ref 0), (1, .int (nI (0)))]) (st' := [.int (nI (0))]) (w2 := compW T S P U O B Q C R tl rf) rfl ?_
  refine ev_tableIn (off := 31) (tgt := 32) dX6_winners_1 (by decide) (by decide) (by decide) (by decide) ?_
  refine ev_b bX6_winners_32_37 (lv' := [(0, .ref 0), (1, .int (nI (0)))]) (st' := [.ref 1, .ref 0]) (w2 := compW T S P U O B Q C R tl rf) rfl ?_
  refine ev_callV (Yc := mX6_winnersOf) (rng 0 49) dX6_winners_37 tw_493 kX6_winnersOf (m_X6_winnersOf_S T S P U O B Q C R tl rf hS) rfl (st := []) rfl rfl rfl (by decide) (same_hw (compW T S P U O B Q C R tl rf)) (by decide) (Nat.le_of_ble_eq_true rfl) (Nat.le_refl _) (Nat.le_refl _) (fun r w' h => by obtain ⟨-, O', rfl, -⟩ := h; exact Nat.le_refl 49) ?_
  rintro _ _ ⟨rfl, O1, rfl, hK1⟩
  refine ev_eq (lv' := [(0, .ref 0), (1, .int (nI (0)))]) (st' := [.int (nI (winB S 1023))]) (w' := compW T S P U O1 B Q C R tl rf) rfl rfl (same_xp (compW T S P U O B Q C R tl rf) (compW T S P U O1 B Q C R tl rf) rfl) ?_
  have hwb := winB_lt hS 1023
  exact ev_iret dX6_winners_40 rfl (Nat.le_refl 49) (Nat.le_refl _) (Nat.le_refl _) ⟨rfl, _, _, _, _, _, _, rfl, hQ, rfl, rfl⟩
theorem bX6_winners_41_46 {l : Launch} {E : XE} : Snd l E mX6_winners 41 46 (xs [x_aload 0, x_aload 0, x_get 7 0]) := Snd.cons (snd_aload_n (i := 0) dX6_winners_41 rfl) (Snd.cons (snd_aload_n (i := 0) dX6_winners_42 rfl) (Snd.cons (snd_get (ci := 7) (k := 0) dX6_winners_43 rfl inX6 (by decide) tw_207) Snd.nil))
set_option maxHeartbeats 4000000 in
set_option maxRecDepth 100000 in
theorem p_winners_w1 {l : Launch} {E : XE} (T : TopN) (S P U : SaleN) (O : OutN) (B : BillN) (Q : SeaN) (C : ScrN) (R : PrtN) (tl rf : Nat → Nat)  (hS : SaleOK S) (hQ : Q.fd < 2147483648)  : MetE l E mX6_winners (5) 0 0 [.ref 0, .int (nI (1))] (compW T S P U O B Q C R tl rf) (CP T S P (C.lt) (C.sz) tl rf (some (.int (nI (winW S 1023))))) := by
  refine MetE.of (by decide +kernel) (Nat.le_of_ble_eq_true rfl) ?_
  have hca := hS.1
  have hpw := pow_ca hS
  have hac := ac_lt hS
  
  refine ev_eq (lv' := [(0, .ref 0), (1, .int (nI (1)))]) (st' := []) (w' := compW T S P U O B Q C R tl rf) rfl rfl rfl ?_
  refine ev_b bX6_winners_0_1 (lv' := [(0, .ref 0), (1, .int (nI (1)))]) (st' := [.int (nI (1))]) (w2 := compW T S P U O B Q C R tl rf) rfl ?_
  refine ev_tableIn (off := 40) (tgt := 41) dX6_winners_1 (by decide) (by decide) (by decide) (by decide) ?_
  refine ev_b bX6_winners_41_46 (lv' := [(0, .ref 0), (1, .int (nI (1)))]) (st' := [.ref 1, .ref 0]) (w2 := compW T S P U O B Q C R tl rf) rfl ?_
  refine ev_callV (Yc := mX6_worthOf) (rng 0 49) dX6_winners_46 tw_629 kX6_worthOf (m_X6_worthOf_S T S P U O B Q C R tl rf hS) rfl (st := []) rfl rfl rfl (by decide) (same_hw (compW T S P U O B Q C R tl rf)) (by decide) (Nat.le_of_ble_eq_true rfl) (Nat.le_refl _) (Nat.le_refl _) (fun r w' h => by obtain ⟨-, O', rfl, -⟩ := h; exact Nat.le_refl 49) ?_
  rintro _ _ ⟨rfl, O1, rfl, hK1⟩
  refine ev_eq (lv' := [(0, .ref 0), (1, .int (nI (1)))]) (st' := [.int (nI (winW S 1023))]) (w' := compW T S P U O1 B Q C R tl rf) rfl rfl (same_xp (compW T S P U O B Q C R tl rf) (compW T S P U O1 B Q C R tl rf) rfl) ?_
  have hwb := winB_lt hS 1023
  exact ev_iret dX6_winners_49 rfl (Nat.le_refl 49) (Nat.le_refl _) (Nat.le_refl _) ⟨rfl, _, _, _, _, _, _, rfl, hQ, rfl, rfl⟩
theorem bX6_winners_50_59 {l : Launch} {E : XE} : Snd l E mX6_winners 50 59 (xs [x_aload 0, x_get 7 0, x_aload 0, x_aload 0, x_get 7 0]) := Snd.cons (snd_aload_n (i := 0) dX6_winners_50 rfl) (Snd.cons (snd_get (ci := 7) (k := 0) dX6_winners_51 rfl inX6 (by decide) tw_207) (Snd.cons (snd_aload_n (i := 0) dX6_winners_54 rfl) (Snd.cons (snd_aload_n (i := 0) dX6_winners_55 rfl) (Snd.cons (snd_get (ci := 7) (k := 0) dX6_winners_56 rfl inX6 (by decide) tw_207) Snd.nil))))
set_option maxHeartbeats 4000000 in
set_option maxRecDepth 100000 in
theorem p_winners_w2 {l : Launch} {E : XE} (T : TopN) (S P U : SaleN) (O : OutN) (B : BillN) (Q : SeaN) (C : ScrN) (R : PrtN) (tl rf : Nat → Nat)  (hS : SaleOK S) (hQ : Q.fd < 2147483648)  : MetE l E mX6_winners (5) 0 0 [.ref 0, .int (nI (2))] (compW T S P U O B Q C R tl rf) (CP T S P (C.lt) (C.sz) tl rf (some (.int (nI (itTo S.st (winB S 1023) S.ca))))) := by
  refine MetE.of (by decide +kernel) (Nat.le_of_ble_eq_true rfl) ?_
  have hca := hS.1
  have hpw := pow_ca hS
  have hac := ac_lt hS
  
  refine ev_eq (lv' := [(0, .ref 0), (1, .int (nI (2)))]) (st' := []) (w' := compW T S P U O B Q C R tl rf) rfl rfl rfl ?_
  refine ev_b bX6_winners_0_1 (lv' := [(0, .ref 0), (1, .int (nI (2)))]) (st' := [.int (nI (2))]) (w2 := compW T S P U O B Q C R tl rf) rfl ?_
  refine ev_tableIn (off := 49) (tgt := 50) dX6_winners_1 (by decide) (by decide) (by decide) (by decide) ?_
  refine ev_b bX6_winners_50_59 (lv' := [(0, .ref 0), (1, .int (nI (2)))]) (st' := [.ref 1, .ref 0, .ref 1]) (w2 := compW T S P U O B Q C R tl rf) rfl ?_
  refine ev_callV (Yc := mX6_winnersOf) (rng 0 49) dX6_winners_59 tw_493 kX6_winnersOf (m_X6_winnersOf_S T S P U O B Q C R tl rf hS) rfl (st := [.ref 1]) rfl rfl rfl (by decide) (same_hw (compW T S P U O B Q C R tl rf)) (by decide) (Nat.le_of_ble_eq_true rfl) (Nat.le_refl _) (Nat.le_refl _) (fun r w' h => by obtain ⟨-, O', rfl, -⟩ := h; exact Nat.le_refl 49) ?_
  rintro _ _ ⟨rfl, O1, rfl, hK1⟩
  refine ev_eq (lv' := [(0, .ref 0), (1, .int (nI (2)))]) (st' := [.int (nI (winB S 1023)), .ref 1]) (w' := compW T S P U O1 B Q C R tl rf) rfl rfl (same_xp (compW T S P U O B Q C R tl rf) (compW T S P U O1 B Q C R tl rf) rfl) ?_
  have hwb := winB_lt hS 1023
  refine ev_callVN (Yc := mX3_itemsOf) [1, 2, 3, 4, 5, 6, 7, 8] dX6_winners_62 tn_634 kX3_itemsOf (m_X3_itemsOf S (winB S 1023) hS (by omega)) rfl (st := []) rfl rfl rfl (by decide) hw_comp__1 (by decide) (Nat.le_of_ble_eq_true rfl) (Nat.le_refl _) (Nat.le_refl _) (fun r w' h => by obtain ⟨-, rfl⟩ := h; exact Nat.le_of_ble_eq_true rfl) ?_
  rintro _ _ ⟨rfl, rfl⟩
  refine ev_eq (lv' := [(0, .ref 0), (1, .int (nI (2)))]) (st' := [.int (nI (itTo S.st (winB S 1023) S.ca))]) (w' := compW T S P U O1 B Q C R tl rf) rfl rfl xp_comp__1 ?_
  exact ev_iret dX6_winners_65 rfl (Nat.le_refl 49) (Nat.le_refl _) (Nat.le_refl _) ⟨rfl, _, _, _, _, _, _, rfl, hQ, rfl, rfl⟩
theorem bX6_winners_66_74 {l : Launch} {E : XE} : Snd l E mX6_winners 66 74 (xs [x_aload 0, x_get 7 5, x_aload 0, x_get 7 0]) := Snd.cons (snd_aload_n (i := 0) dX6_winners_66 rfl) (Snd.cons (snd_get (ci := 7) (k := 5) dX6_winners_67 rfl inX6 (by decide) tw_212) (Snd.cons (snd_aload_n (i := 0) dX6_winners_70 rfl) (Snd.cons (snd_get (ci := 7) (k := 0) dX6_winners_71 rfl inX6 (by decide) tw_207) Snd.nil)))
set_option maxHeartbeats 4000000 in
set_option maxRecDepth 100000 in
theorem p_winners_w3 {l : Launch} {E : XE} (T : TopN) (S P U : SaleN) (O : OutN) (B : BillN) (Q : SeaN) (C : ScrN) (R : PrtN) (tl rf : Nat → Nat)  (hS : SaleOK S) (hQ : Q.fd < 2147483648)  : MetE l E mX6_winners (18) 0 0 [.ref 0, .int (nI (3))] (compW T S P U O B Q C R tl rf) (CP T S P (C.lt) (C.sz) tl rf (some (.int (nI ((lookL S (ordN S S.ca) 0 (0, 0)).1))))) := by
  refine MetE.of (by decide +kernel) (Nat.le_of_ble_eq_true rfl) ?_
  have hca := hS.1
  have hpw := pow_ca hS
  have hac := ac_lt hS
  
  refine ev_eq (lv' := [(0, .ref 0), (1, .int (nI (3)))]) (st' := []) (w' := compW T S P U O B Q C R tl rf) rfl rfl rfl ?_
  refine ev_b bX6_winners_0_1 (lv' := [(0, .ref 0), (1, .int (nI (3)))]) (st' := [.int (nI (3))]) (w2 := compW T S P U O B Q C R tl rf) rfl ?_
  refine ev_tableIn (off := 65) (tgt := 66) dX6_winners_1 (by decide) (by decide) (by decide) (by decide) ?_
  refine ev_b bX6_winners_66_74 (lv' := [(0, .ref 0), (1, .int (nI (3)))]) (st' := [.ref 1, .ref 35]) (w2 := compW T S P U O B Q C R tl rf) rfl ?_
  refine ev_callVN (Yc := mX5_branchesOf) [35, 36, 37, 1, 2, 3, 4, 5, 6, 7, 8] dX6_winners_74 tn_635 kX5_branchesOf (m_X5_branchesOf Q S hS hQ) rfl (st := []) rfl rfl rfl (by decide) hw_comp__35_1 (by decide) (Nat.le_of_ble_eq_true rfl) (Nat.le_refl _) (Nat.le_refl _) (fun r w' h => by obtain ⟨-, Q3, rfl, -⟩ := h; exact Nat.le_of_ble_eq_true rfl) ?_
  rintro _ _ ⟨rfl, Q3, rfl, hQ3⟩
  refine ev_eq (lv' := [(0, .ref 0), (1, .int (nI (3)))]) (st' := [.int (nI ((lookL S (ordN S S.ca) 0 (0, 0)).1))]) (w' := compW T S P U O B Q3 C R tl rf) rfl rfl xp_comp__35_1 ?_
  exact ev_iret dX6_winners_77 rfl (Nat.le_refl 49) (Nat.le_refl _) (Nat.le_refl _) ⟨rfl, _, _, _, _, _, _, rfl, hQ3, rfl, rfl⟩
theorem bX6_item_0_1 {l : Launch} {E : XE} : Snd l E mX6_item 0 1 (xs [x_iload 1]) := Snd.cons (snd_iload_n (i := 1) dX6_item_0 rfl) Snd.nil
theorem bX6_item_7_9 {l : Launch} {E : XE} : Snd l E mX6_item 7 9 (xs [x_aload 0, x_push (.int (-1))]) := Snd.cons (snd_aload_n (i := 0) dX6_item_7 rfl) (Snd.cons (snd_iconst (v := -1) dX6_item_8 (by decide)) Snd.nil)
set_option maxHeartbeats 4000000 in
set_option maxRecDepth 100000 in
theorem p_item_1 {l : Launch} {E : XE} (T : TopN) (S P U : SaleN) (O : OutN) (B : BillN) (Q : SeaN) (C : ScrN) (R : PrtN) (tl rf : Nat → Nat) (z1 z2 : Int) (hS : SaleOK S) (hQ : Q.fd < 2147483648) (rz1 : -2147483648 ≤ z1 ∧ z1 < 2147483648) (rz2 : -2147483648 ≤ z2 ∧ z2 < 2147483648) (h : ¬ (0 ≤ z1 ∧ z1 < 6)) : MetE l E mX6_item (1) 0 0 [.ref 0, .int (zI (z1)), .int (zI (z2))] (compW T S P U O B Q C R tl rf) (CP T S P (C.lt) (C.sz) tl (up rf 1 (rf 1 + 1)) (some (.int (-1)))) := by
  refine MetE.of (by decide +kernel) (Nat.le_of_ble_eq_true rfl) ?_
  have hca := hS.1
  have hpw := pow_ca hS
  have hac := ac_lt hS
  
  refine ev_eq (lv' := [(0, .ref 0), (1, .int (zI (z1))), (2, .int (zI (z2)))]) (st' := []) (w' := compW T S P U O B Q C R tl rf) rfl rfl rfl ?_
  refine ev_b bX6_item_0_1 (lv' := [(0, .ref 0), (1, .int (zI (z1))), (2, .int (zI (z2)))]) (st' := [.int (zI (z1))]) (w2 := compW T S P U O B Q C R tl rf) rfl ?_
  refine ev_callS (Yc := mX6_isItem) [] dX6_item_1 tw_475 kX6_isItem (m_X6_isItem_z z1 rz1) rfl (st := []) rfl (by decide) rfl (by decide) (Nat.le_of_ble_eq_true rfl) (Nat.le_refl _) (Nat.le_refl _) (fun r w' h => by obtain ⟨-, rfl⟩ := h; exact Nat.le_of_ble_eq_true rfl) ?_
  rintro _ _ ⟨rfl, rfl⟩
  refine ev_eq (lv' := [(0, .ref 0), (1, .int (zI (z1))), (2, .int (zI (z2)))]) (st' := [.int (nI (b01 (0 ≤ z1 ∧ z1 < 6)))]) (w' := compW T S P U O B Q C R tl rf) rfl rfl rfl ?_
  refine ev_ifne_b (tgt := 13) dX6_item_4 (by decide) (fun h4 => (by exfalso; omega)) (fun h4 => ?_)
  refine ev_b bX6_item_7_9 (lv' := [(0, .ref 0), (1, .int (zI (z1))), (2, .int (zI (z2)))]) (st' := [.int (-1), .ref 0]) (w2 := compW T S P U O B Q C R tl rf) rfl ?_
  refine ev_callV (Yc := mX6_refuse) (rng 0 49) dX6_item_9 tw_248 kX6_refuse (m_X6_refuse_1 T S P U O B Q C R tl rf) rfl (st := []) rfl rfl rfl (by decide) (same_hw (compW T S P U O B Q C R tl rf)) (by decide) (Nat.le_of_ble_eq_true rfl) (Nat.le_refl _) (Nat.le_refl _) (fun r w' h => by obtain ⟨-, rfl⟩ := h; exact Nat.le_of_ble_eq_true rfl) ?_
  rintro _ _ ⟨rfl, rfl⟩
  refine ev_eq (lv' := [(0, .ref 0), (1, .int (zI (z1))), (2, .int (zI (z2)))]) (st' := [.int (-1)]) (w' := compW T S P U O B Q C R tl ((up rf 1 (rf 1 + 1)))) rfl rfl (same_xp (compW T S P U O B Q C R tl rf) (compW T S P U O B Q C R tl ((up rf 1 (rf 1 + 1)))) rfl) ?_
  exact ev_iret dX6_item_12 rfl (Nat.le_refl 49) (Nat.le_refl _) (Nat.le_refl _) ⟨rfl, _, _, _, _, _, _, rfl, hQ, rfl, rfl⟩
theorem bX6_item_13_14 {l : Launch} {E : XE} : Snd l E mX6_item 13 14 (xs [x_iload 2]) := Snd.cons (snd_iload_n (i := 2) dX6_item_13 rfl) Snd.nil
theorem bX6_item_96_99 {l : Launch} {E : XE} : Snd l E mX6_item 96 99 (xs [x_aload 0, x_push (.int (-2))]) := Snd.cons (snd_aload_n (i := 0) dX6_item_96 rfl) (Snd.cons (snd_bipush (v := -2) dX6_item_97 (by decide)) Snd.nil)
set_option maxHeartbeats 4000000 in
set_option maxRecDepth 100000 in
theorem p_item_2 {l : Launch} {E : XE} (T : TopN) (S P U : SaleN) (O : OutN) (B : BillN) (Q : SeaN) (C : ScrN) (R : PrtN) (tl rf : Nat → Nat) (i : Nat) (z2 : Int) (hS : SaleOK S) (hQ : Q.fd < 2147483648) (rz2 : -2147483648 ≤ z2 ∧ z2 < 2147483648) (hi : i < 6) (h : z2 < 0 ∨ 3 < z2) : MetE l E mX6_item (1) 0 0 [.ref 0, .int (nI (i)), .int (zI (z2))] (compW T S P U O B Q C R tl rf) (CP T S P (C.lt) (C.sz) tl (up rf 2 (rf 2 + 1)) (some (.int (-2)))) := by
  refine MetE.of (by decide +kernel) (Nat.le_of_ble_eq_true rfl) ?_
  have hca := hS.1
  have hpw := pow_ca hS
  have hac := ac_lt hS
  
  refine ev_eq (lv' := [(0, .ref 0), (1, .int (nI (i))), (2, .int (zI (z2)))]) (st' := []) (w' := compW T S P U O B Q C R tl rf) rfl rfl rfl ?_
  refine ev_b bX6_item_0_1 (lv' := [(0, .ref 0), (1, .int (nI (i))), (2, .int (zI (z2)))]) (st' := [.int (nI (i))]) (w2 := compW T S P U O B Q C R tl rf) rfl ?_
  refine ev_callS (Yc := mX6_isItem) [] dX6_item_1 tw_475 kX6_isItem (m_X6_isItem i (by omega)) rfl (st := []) rfl (by decide) rfl (by decide) (Nat.le_of_ble_eq_true rfl) (Nat.le_refl _) (Nat.le_refl _) (fun r w' h => by obtain ⟨-, rfl⟩ := h; exact Nat.le_of_ble_eq_true rfl) ?_
  rintro _ _ ⟨rfl, rfl⟩
  refine ev_eq (lv' := [(0, .ref 0), (1, .int (nI (i))), (2, .int (zI (z2)))]) (st' := [.int (nI (b01 (i < 6)))]) (w' := compW T S P U O B Q C R tl rf) rfl rfl rfl ?_
  refine ev_ifne_b (tgt := 13) dX6_item_4 (by decide) (fun h4 => ?_) (fun h4 => (by exfalso; omega))
  refine ev_b bX6_item_13_14 (lv' := [(0, .ref 0), (1, .int (nI (i))), (2, .int (zI (z2)))]) (st' := [.int (zI (z2))]) (w2 := compW T S P U O B Q C R tl rf) rfl ?_
  refine ev_tableOut (tgt := 96) dX6_item_14 (by rw [zI_toInt (by omega) (by omega)]; omega) (by decide) ?_
  refine ev_b bX6_item_96_99 (lv' := [(0, .ref 0), (1, .int (nI (i))), (2, .int (zI (z2)))]) (st' := [.int (-2), .ref 0]) (w2 := compW T S P U O B Q C R tl rf) rfl ?_
  refine ev_callV (Yc := mX6_refuse) (rng 0 49) dX6_item_99 tw_248 kX6_refuse (m_X6_refuse_2 T S P U O B Q C R tl rf) rfl (st := []) rfl rfl rfl (by decide) (same_hw (compW T S P U O B Q C R tl rf)) (by decide) (Nat.le_of_ble_eq_true rfl) (Nat.le_refl _) (Nat.le_refl _) (fun r w' h => by obtain ⟨-, rfl⟩ := h; exact Nat.le_of_ble_eq_true rfl) ?_
  rintro _ _ ⟨rfl, rfl⟩
  refine ev_eq (lv' := [(0, .ref 0), (1, .int (nI (i))), (2, .int (zI (z2)))]) (st' := [.int (-2)]) (w' := compW T S P U O B Q C R tl ((up rf 2 (rf 2 + 1)))) rfl rfl (same_xp (compW T S P U O B Q C R tl rf) (compW T S P U O B Q C R tl ((up rf 2 (rf 2 + 1)))) rfl) ?_
  exact ev_iret dX6_item_102 rfl (Nat.le_refl 49) (Nat.le_refl _) (Nat.le_refl _) ⟨rfl, _, _, _, _, _, _, rfl, hQ, rfl, rfl⟩
theorem bX6_item_44_49 {l : Launch} {E : XE} : Snd l E mX6_item 44 49 (xs [x_aload 0, x_get 7 0, x_iload 1]) := Snd.cons (snd_aload_n (i := 0) dX6_item_44 rfl) (Snd.cons (snd_get (ci := 7) (k := 0) dX6_item_45 rfl inX6 (by decide) tw_207) (Snd.cons (snd_iload_n (i := 1) dX6_item_48 rfl) Snd.nil))
set_option maxHeartbeats 4000000 in
set_option maxRecDepth 100000 in
theorem p_item_w0 {l : Launch} {E : XE} (T : TopN) (S P U : SaleN) (O : OutN) (B : BillN) (Q : SeaN) (C : ScrN) (R : PrtN) (tl rf : Nat → Nat) (i : Nat) (hS : SaleOK S) (hQ : Q.fd < 2147483648) (hi : i < 6) : MetE l E mX6_item (2) 0 0 [.ref 0, .int (nI (i)), .int (nI (0))] (compW T S P U O B Q C R tl rf) (CP T S P (C.lt) (C.sz) tl rf (some (.int (nI (S.rs i))))) := by
  refine MetE.of (by decide +kernel) (Nat.le_of_ble_eq_true rfl) ?_
  have hca := hS.1
  have hpw := pow_ca hS
  have hac := ac_lt hS
  
  refine ev_eq (lv' := [(0, .ref 0), (1, .int (nI (i))), (2, .int (nI (0)))]) (st' := []) (w' := compW T S P U O B Q C R tl rf) rfl rfl rfl ?_
  refine ev_b bX6_item_0_1 (lv' := [(0, .ref 0), (1, .int (nI (i))), (2, .int (nI (0)))]) (st' := [.int (nI (i))]) (w2 := compW T S P U O B Q C R tl rf) rfl ?_
  refine ev_callS (Yc := mX6_isItem) [] dX6_item_1 tw_475 kX6_isItem (m_X6_isItem i (by omega)) rfl (st := []) rfl (by decide) rfl (by decide) (Nat.le_of_ble_eq_true rfl) (Nat.le_refl _) (Nat.le_refl _) (fun r w' h => by obtain ⟨-, rfl⟩ := h; exact Nat.le_of_ble_eq_true rfl) ?_
  rintro _ _ ⟨rfl, rfl⟩
  refine ev_eq (lv' := [(0, .ref 0), (1, .int (nI (i))), (2, .int (nI (0)))]) (st' := [.int (nI (b01 (i < 6)))]) (w' := compW T S P U O B Q C R tl rf) rfl rfl rfl ?_
  refine ev_ifne_b (tgt := 13) dX6_item_4 (by decide) (fun h4 => ?_) (fun h4 => (by exfalso; omega))
  refine ev_b bX6_item_13_14 (lv' := [(0, .ref 0), (1, .int (nI (i))), (2, .int (nI (0)))]) (st' := [.int (nI (0))]) (w2 := compW T S P U O B Q C R tl rf) rfl ?_
  refine ev_tableIn (off := 30) (tgt := 44) dX6_item_14 (by decide) (by decide) (by decide) (by decide) ?_
  refine ev_b bX6_item_44_49 (lv' := [(0, .ref 0), (1, .int (nI (i))), (2, .int (nI (0)))]) (st' := [.int (nI (i)), .ref 1]) (w2 := compW T S P U O B Q C R tl rf) rfl ?_
  refine ev_callVN (Yc := mX3_reserveOf) [1, 2, 3, 4, 5, 6, 7, 8] dX6_item_49 tn_476 kX3_reserveOf (m_X3_reserveOf S i hi) rfl (st := []) rfl rfl rfl (by decide) hw_comp__1 (by decide) (Nat.le_of_ble_eq_true rfl) (Nat.le_refl _) (Nat.le_refl _) (fun r w' h => by obtain ⟨-, rfl⟩ := h; exact Nat.le_of_ble_eq_true rfl) ?_
  rintro _ _ ⟨rfl, rfl⟩
  refine ev_eq (lv' := [(0, .ref 0), (1, .int (nI (i))), (2, .int (nI (0)))]) (st' := [.int (nI (S.rs i))]) (w' := compW T S P U O B Q C R tl rf) rfl rfl xp_comp__1 ?_
  exact ev_iret dX6_item_52 rfl (Nat.le_refl 49) (Nat.le_refl _) (Nat.le_refl _) ⟨rfl, _, _, _, _, _, _, rfl, hQ, rfl, rfl⟩
theorem bX6_item_53_59 {l : Launch} {E : XE} : Snd l E mX6_item 53 59 (xs [x_aload 0, x_get 7 0, x_push (.int (nI 1)), x_iload 1]) := Snd.cons (snd_aload_n (i := 0) dX6_item_53 rfl) (Snd.cons (snd_get (ci := 7) (k := 0) dX6_item_54 rfl inX6 (by decide) tw_207) (Snd.cons (snd_iconst (v := nI 1) dX6_item_57 (by decide)) (Snd.cons (snd_iload_n (i := 1) dX6_item_58 rfl) Snd.nil)))
theorem bX6_item_63_68 {l : Launch} {E : XE} : Snd l E mX6_item 63 68 (xs [x_aload 0, x_aload 0, x_get 7 0]) := Snd.cons (snd_aload_n (i := 0) dX6_item_63 rfl) (Snd.cons (snd_aload_n (i := 0) dX6_item_64 rfl) (Snd.cons (snd_get (ci := 7) (k := 0) dX6_item_65 rfl inX6 (by decide) tw_207) Snd.nil))
set_option maxHeartbeats 4000000 in
set_option maxRecDepth 100000 in
theorem p_item_w1 {l : Launch} {E : XE} (T : TopN) (S P U : SaleN) (O : OutN) (B : BillN) (Q : SeaN) (C : ScrN) (R : PrtN) (tl rf : Nat → Nat) (i : Nat) (hS : SaleOK S) (hQ : Q.fd < 2147483648) (hi : i < 6) : MetE l E mX6_item (5) 0 0 [.ref 0, .int (nI (i)), .int (nI (1))] (compW T S P U O B Q C R tl rf) (CP T S P (C.lt) (C.sz) tl rf (some (.int (zI (firstZ ((hdTo S.st (1 <<< i) S.ca &&& S.ac) &&& winB S 1023) 10 0))))) := by
  refine MetE.of (by decide +kernel) (Nat.le_of_ble_eq_true rfl) ?_
  have hca := hS.1
  have hpw := pow_ca hS
  have hac := ac_lt hS
  have h1i : 1 <<< i < 2147483648 := Nat.lt_of_lt_of_le (shl_lt (show i < 6 from hi)) (by decide)
  refine ev_eq (lv' := [(0, .ref 0), (1, .int (nI (i))), (2, .int (nI (1)))]) (st' := []) (w' := compW T S P U O B Q C R tl rf) rfl rfl rfl ?_
  refine ev_b bX6_item_0_1 (lv' := [(0, .ref 0), (1, .int (nI (i))), (2, .int (nI (1)))]) (st' := [.int (nI (i))]) (w2 := compW T S P U O B Q C R tl rf) rfl ?_
  refine ev_callS (Yc := mX6_isItem) [] dX6_item_1 tw_475 kX6_isItem (m_X6_isItem i (by omega)) rfl (st := []) rfl (by decide) rfl (by decide) (Nat.le_of_ble_eq_true rfl) (Nat.le_refl _) (Nat.le_refl _) (fun r w' h => by obtain ⟨-, rfl⟩ := h; exact Nat.le_of_ble_eq_true rfl) ?_
  rintro _ _ ⟨rfl, rfl⟩
  refine ev_eq (lv' := [(0, .ref 0), (1, .int (nI (i))), (2, .int (nI (1)))]) (st' := [.int (nI (b01 (i < 6)))]) (w' := compW T S P U O B Q C R tl rf) rfl rfl rfl ?_
  refine ev_ifne_b (tgt := 13) dX6_item_4 (by decide) (fun h4 => ?_) (fun h4 => (by exfalso; omega))
  refine ev_b bX6_item_13_14 (lv' := [(0, .ref 0), (1, .int (nI (i))), (2, .int (nI (1)))]) (st' := [.int (nI (1))]) (w2 := compW T S P U O B Q C R tl rf) rfl ?_
  refine ev_tableIn (off := 39) (tgt := 53) dX6_item_14 (by decide) (by decide) (by decide) (by decide) ?_
  refine ev_b bX6_item_53_59 (lv' := [(0, .ref 0), (1, .int (nI (i))), (2, .int (nI (1)))]) (st' := [.int (nI (i)), .int (nI (1)), .ref 1]) (w2 := compW T S P U O B Q C R tl rf) rfl ?_
  refine ev_ishl_n (by omega) dX6_item_59 ?_
  refine ev_callVN (Yc := mX3_holders) [1, 2, 3, 4, 5, 6, 7, 8] dX6_item_60 tn_685 kX3_holders (m_X3_holders S (1 <<< i) hS h1i) rfl (st := []) rfl rfl rfl (by decide) hw_comp__1 (by decide) (Nat.le_of_ble_eq_true rfl) (Nat.le_refl _) (Nat.le_refl _) (fun r w' h => by obtain ⟨-, rfl⟩ := h; exact Nat.le_of_ble_eq_true rfl) ?_
  rintro _ _ ⟨rfl, rfl⟩
  refine ev_eq (lv' := [(0, .ref 0), (1, .int (nI (i))), (2, .int (nI (1)))]) (st' := [.int (nI (hdTo S.st (1 <<< i) S.ca &&& S.ac))]) (w' := compW T S P U O B Q C R tl rf) rfl rfl xp_comp__1 ?_
  refine ev_b bX6_item_63_68 (lv' := [(0, .ref 0), (1, .int (nI (i))), (2, .int (nI (1)))]) (st' := [.ref 1, .ref 0, .int (nI (hdTo S.st (1 <<< i) S.ca &&& S.ac))]) (w2 := compW T S P U O B Q C R tl rf) rfl ?_
  refine ev_callV (Yc := mX6_winnersOf) (rng 0 49) dX6_item_68 tw_493 kX6_winnersOf (m_X6_winnersOf_S T S P U O B Q C R tl rf hS) rfl (st := [.int (nI (hdTo S.st (1 <<< i) S.ca &&& S.ac))]) rfl rfl rfl (by decide) (same_hw (compW T S P U O B Q C R tl rf)) (by decide) (Nat.le_of_ble_eq_true rfl) (Nat.le_refl _) (Nat.le_refl _) (fun r w' h => by obtain ⟨-, O', rfl, -⟩ := h; exact Nat.le_refl 49) ?_
  rintro _ _ ⟨rfl, O1, rfl, hK1⟩
  refine ev_eq (lv' := [(0, .ref 0), (1, .int (nI (i))), (2, .int (nI (1)))]) (st' := [.int (nI (winB S 1023)), .int (nI (hdTo S.st (1 <<< i) S.ca &&& S.ac))]) (w' := compW T S P U O1 B Q C R tl rf) rfl rfl (same_xp (compW T S P U O B Q C R tl rf) (compW T S P U O1 B Q C R tl rf) rfl) ?_
  have hwb := winB_lt hS 1023
  refine ev_iand_n dX6_item_71 ?_
  refine ev_callS (Yc := mX6_firstBid) [] dX6_item_72 tw_689 kX6_firstBid (m_X6_firstBid _ (Nat.lt_of_le_of_lt Nat.and_le_right (by omega))) rfl (st := []) rfl (by decide) rfl (by decide) (Nat.le_of_ble_eq_true rfl) (Nat.le_refl _) (Nat.le_refl _) (fun r w' h => by obtain ⟨-, rfl⟩ := h; exact Nat.le_of_ble_eq_true rfl) ?_
  rintro _ _ ⟨rfl, rfl⟩
  refine ev_eq (lv' := [(0, .ref 0), (1, .int (nI (i))), (2, .int (nI (1)))]) (st' := [.int (zI (firstZ ((hdTo S.st (1 <<< i) S.ca &&& S.ac) &&& winB S 1023) 10 0))]) (w' := compW T S P U O1 B Q C R tl rf) rfl rfl rfl ?_
  exact ev_iret dX6_item_75 rfl (Nat.le_refl 49) (Nat.le_refl _) (Nat.le_refl _) ⟨rfl, _, _, _, _, _, _, rfl, hQ, rfl, rfl⟩
theorem bX6_item_82_88 {l : Launch} {E : XE} : Snd l E mX6_item 82 88 (xs [x_aload 0, x_get 7 0, x_push (.int (nI 1)), x_iload 1]) := Snd.cons (snd_aload_n (i := 0) dX6_item_82 rfl) (Snd.cons (snd_get (ci := 7) (k := 0) dX6_item_83 rfl inX6 (by decide) tw_207) (Snd.cons (snd_iconst (v := nI 1) dX6_item_86 (by decide)) (Snd.cons (snd_iload_n (i := 1) dX6_item_87 rfl) Snd.nil)))
set_option maxHeartbeats 4000000 in
set_option maxRecDepth 100000 in
theorem p_item_w3 {l : Launch} {E : XE} (T : TopN) (S P U : SaleN) (O : OutN) (B : BillN) (Q : SeaN) (C : ScrN) (R : PrtN) (tl rf : Nat → Nat) (i : Nat) (hS : SaleOK S) (hQ : Q.fd < 2147483648) (hi : i < 6) : MetE l E mX6_item (1) 0 0 [.ref 0, .int (nI (i)), .int (nI (3))] (compW T S P U O B Q C R tl rf) (CP T S P (C.lt) (C.sz) tl rf (some (.int (nI (pop (hdTo S.st (1 <<< i) S.ca &&& S.ac)))))) := by
  refine MetE.of (by decide +kernel) (Nat.le_of_ble_eq_true rfl) ?_
  have hca := hS.1
  have hpw := pow_ca hS
  have hac := ac_lt hS
  have h1i : 1 <<< i < 2147483648 := Nat.lt_of_lt_of_le (shl_lt (show i < 6 from hi)) (by decide)
  refine ev_eq (lv' := [(0, .ref 0), (1, .int (nI (i))), (2, .int (nI (3)))]) (st' := []) (w' := compW T S P U O B Q C R tl rf) rfl rfl rfl ?_
  refine ev_b bX6_item_0_1 (lv' := [(0, .ref 0), (1, .int (nI (i))), (2, .int (nI (3)))]) (st' := [.int (nI (i))]) (w2 := compW T S P U O B Q C R tl rf) rfl ?_
  refine ev_callS (Yc := mX6_isItem) [] dX6_item_1 tw_475 kX6_isItem (m_X6_isItem i (by omega)) rfl (st := []) rfl (by decide) rfl (by decide) (Nat.le_of_ble_eq_true rfl) (Nat.le_refl _) (Nat.le_refl _) (fun r w' h => by obtain ⟨-, rfl⟩ := h; exact Nat.le_of_ble_eq_true rfl) ?_
  rintro _ _ ⟨rfl, rfl⟩
  refine ev_eq (lv' := [(0, .ref 0), (1, .int (nI (i))), (2, .int (nI (3)))]) (st' := [.int (nI (b01 (i < 6)))]) (w' := compW T S P U O B Q C R tl rf) rfl rfl rfl ?_
  refine ev_ifne_b (tgt := 13) dX6_item_4 (by decide) (fun h4 => ?_) (fun h4 => (by exfalso; omega))
  refine ev_b bX6_item_13_14 (lv' := [(0, .ref 0), (1, .int (nI (i))), (2, .int (nI (3)))]) (st' := [.int (nI (3))]) (w2 := compW T S P U O B Q C R tl rf) rfl ?_
  refine ev_tableIn (off := 68) (tgt := 82) dX6_item_14 (by decide) (by decide) (by decide) (by decide) ?_
  refine ev_b bX6_item_82_88 (lv' := [(0, .ref 0), (1, .int (nI (i))), (2, .int (nI (3)))]) (st' := [.int (nI (i)), .int (nI (1)), .ref 1]) (w2 := compW T S P U O B Q C R tl rf) rfl ?_
  refine ev_ishl_n (by omega) dX6_item_88 ?_
  refine ev_callVN (Yc := mX3_holders) [1, 2, 3, 4, 5, 6, 7, 8] dX6_item_89 tn_685 kX3_holders (m_X3_holders S (1 <<< i) hS h1i) rfl (st := []) rfl rfl rfl (by decide) hw_comp__1 (by decide) (Nat.le_of_ble_eq_true rfl) (Nat.le_refl _) (Nat.le_refl _) (fun r w' h => by obtain ⟨-, rfl⟩ := h; exact Nat.le_of_ble_eq_true rfl) ?_
  rintro _ _ ⟨rfl, rfl⟩
  refine ev_eq (lv' := [(0, .ref 0), (1, .int (nI (i))), (2, .int (nI (3)))]) (st' := [.int (nI (hdTo S.st (1 <<< i) S.ca &&& S.ac))]) (w' := compW T S P U O B Q C R tl rf) rfl rfl xp_comp__1 ?_
  refine ev_callS (Yc := mJ6_bitCount_0f7a4) [] dX6_item_92 tw_696 kJ6_bitCount_0f7a4 (m_bitCount _ (Nat.lt_of_le_of_lt Nat.and_le_right (Nat.lt_of_lt_of_le hS.2.1 hpw))) rfl (st := []) rfl (by decide) rfl (by decide) (Nat.le_of_ble_eq_true rfl) (Nat.le_refl _) (Nat.le_refl _) (fun r w' h => by obtain ⟨-, rfl⟩ := h; exact Nat.le_of_ble_eq_true rfl) ?_
  rintro _ _ ⟨rfl, rfl⟩
  refine ev_eq (lv' := [(0, .ref 0), (1, .int (nI (i))), (2, .int (nI (3)))]) (st' := [.int (nI (pop (hdTo S.st (1 <<< i) S.ca &&& S.ac)))]) (w' := compW T S P U O B Q C R tl rf) rfl rfl rfl ?_
  exact ev_iret dX6_item_95 rfl (Nat.le_refl 49) (Nat.le_refl _) (Nat.le_refl _) ⟨rfl, _, _, _, _, _, _, rfl, hQ, rfl, rfl⟩
theorem bX6_of_0_1 {l : Launch} {E : XE} : Snd l E mX6_of 0 1 (xs [x_iload 1]) := Snd.cons (snd_iload_n (i := 1) dX6_of_0 rfl) Snd.nil
theorem bX6_of_4_7 {l : Launch} {E : XE} : Snd l E mX6_of 4 7 (xs [x_aload 0, x_push (.int (-4))]) := Snd.cons (snd_aload_n (i := 0) dX6_of_4 rfl) (Snd.cons (snd_bipush (v := -4) dX6_of_5 (by decide)) Snd.nil)
set_option maxHeartbeats 4000000 in
set_option maxRecDepth 100000 in
theorem p_of_4 {l : Launch} {E : XE} (T : TopN) (S P U : SaleN) (O : OutN) (B : BillN) (Q : SeaN) (C : ScrN) (R : PrtN) (tl rf : Nat → Nat) (z1 z2 : Int) (hS : SaleOK S) (hQ : Q.fd < 2147483648) (rz1 : -2147483648 ≤ z1 ∧ z1 < 2147483648) (rz2 : -2147483648 ≤ z2 ∧ z2 < 2147483648) (h : z1 < 0) : MetE l E mX6_of (1) 0 0 [.ref 0, .int (zI (z1)), .int (zI (z2))] (compW T S P U O B Q C R tl rf) (CP T S P (C.lt) (C.sz) tl (up rf 4 (rf 4 + 1)) (some (.int (-4)))) := by
  refine MetE.of (by decide +kernel) (Nat.le_of_ble_eq_true rfl) ?_
  have hca := hS.1
  have hpw := pow_ca hS
  have hac := ac_lt hS
  
  refine ev_eq (lv' := [(0, .ref 0), (1, .int (zI (z1))), (2, .int (zI (z2)))]) (st' := []) (w' := compW T S P U O B Q C R tl rf) rfl rfl rfl ?_
  refine ev_b bX6_of_0_1 (lv' := [(0, .ref 0), (1, .int (zI (z1))), (2, .int (zI (z2)))]) (st' := [.int (zI (z1))]) (w2 := compW T S P U O B Q C R tl rf) rfl ?_
  refine ev_if_ge_z (tgt := 11) (by constructor <;> omega) dX6_of_1 (by decide) (fun h1 => (by exfalso; omega)) (fun h1 => ?_)
  refine ev_b bX6_of_4_7 (lv' := [(0, .ref 0), (1, .int (zI (z1))), (2, .int (zI (z2)))]) (st' := [.int (-4), .ref 0]) (w2 := compW T S P U O B Q C R tl rf) rfl ?_
  refine ev_callV (Yc := mX6_refuse) (rng 0 49) dX6_of_7 tw_248 kX6_refuse (m_X6_refuse_4 T S P U O B Q C R tl rf) rfl (st := []) rfl rfl rfl (by decide) (same_hw (compW T S P U O B Q C R tl rf)) (by decide) (Nat.le_of_ble_eq_true rfl) (Nat.le_refl _) (Nat.le_refl _) (fun r w' h => by obtain ⟨-, rfl⟩ := h; exact Nat.le_of_ble_eq_true rfl) ?_
  rintro _ _ ⟨rfl, rfl⟩
  refine ev_eq (lv' := [(0, .ref 0), (1, .int (zI (z1))), (2, .int (zI (z2)))]) (st' := [.int (-4)]) (w' := compW T S P U O B Q C R tl ((up rf 4 (rf 4 + 1)))) rfl rfl (same_xp (compW T S P U O B Q C R tl rf) (compW T S P U O B Q C R tl ((up rf 4 (rf 4 + 1)))) rfl) ?_
  exact ev_iret dX6_of_10 rfl (Nat.le_refl 49) (Nat.le_refl _) (Nat.le_refl _) ⟨rfl, _, _, _, _, _, _, rfl, hQ, rfl, rfl⟩
theorem bX6_of_11_13 {l : Launch} {E : XE} : Snd l E mX6_of 11 13 (xs [x_aload 0, x_iload 1]) := Snd.cons (snd_aload_n (i := 0) dX6_of_11 rfl) (Snd.cons (snd_iload_n (i := 1) dX6_of_12 rfl) Snd.nil)
theorem bX6_of_19_22 {l : Launch} {E : XE} : Snd l E mX6_of 19 22 (xs [x_aload 0, x_push (.int (-6))]) := Snd.cons (snd_aload_n (i := 0) dX6_of_19 rfl) (Snd.cons (snd_bipush (v := -6) dX6_of_20 (by decide)) Snd.nil)
set_option maxHeartbeats 4000000 in
set_option maxRecDepth 100000 in
theorem p_of_6 {l : Launch} {E : XE} (T : TopN) (S P U : SaleN) (O : OutN) (B : BillN) (Q : SeaN) (C : ScrN) (R : PrtN) (tl rf : Nat → Nat) (x : Nat) (z2 : Int) (hS : SaleOK S) (hQ : Q.fd < 2147483648) (hx : x < 2147483648) (h : 1 <<< S.ca ≤ x) : MetE l E mX6_of (1) 0 0 [.ref 0, .int (nI (x)), .int (zI (z2))] (compW T S P U O B Q C R tl rf) (CP T S P (C.lt) (C.sz) tl (up rf 6 (rf 6 + 1)) (some (.int (-6)))) := by
  refine MetE.of (by decide +kernel) (Nat.le_of_ble_eq_true rfl) ?_
  have hca := hS.1
  have hpw := pow_ca hS
  have hac := ac_lt hS
  
  refine ev_eq (lv' := [(0, .ref 0), (1, .int (nI (x))), (2, .int (zI (z2)))]) (st' := []) (w' := compW T S P U O B Q C R tl rf) rfl rfl rfl ?_
  refine ev_b bX6_of_0_1 (lv' := [(0, .ref 0), (1, .int (nI (x))), (2, .int (zI (z2)))]) (st' := [.int (nI (x))]) (w2 := compW T S P U O B Q C R tl rf) rfl ?_
  refine ev_if_ge_n (tgt := 11) (by omega) dX6_of_1 (by decide) (fun h1 => ?_) (fun h1 => (by exfalso; omega))
  refine ev_b bX6_of_11_13 (lv' := [(0, .ref 0), (1, .int (nI (x))), (2, .int (zI (z2)))]) (st' := [.int (nI (x)), .ref 0]) (w2 := compW T S P U O B Q C R tl rf) rfl ?_
  refine ev_callV (Yc := mX6_areBids) (rng 0 49) dX6_of_13 tw_617 kX6_areBids (m_X6_areBids T S P U O B Q C R tl rf x hS (by omega)) rfl (st := []) rfl rfl rfl (by decide) (same_hw (compW T S P U O B Q C R tl rf)) (by decide) (Nat.le_of_ble_eq_true rfl) (Nat.le_refl _) (Nat.le_refl _) (fun r w' h => by obtain ⟨-, rfl⟩ := h; exact Nat.le_of_ble_eq_true rfl) ?_
  rintro _ _ ⟨rfl, rfl⟩
  refine ev_eq (lv' := [(0, .ref 0), (1, .int (nI (x))), (2, .int (zI (z2)))]) (st' := [.int (nI (b01 (x < 1 <<< S.ca)))]) (w' := compW T S P U O B Q C R tl rf) rfl rfl (same_xp (compW T S P U O B Q C R tl rf) (compW T S P U O B Q C R tl rf) rfl) ?_
  refine ev_ifne_b (tgt := 26) dX6_of_16 (by decide) (fun h16 => (by exfalso; omega)) (fun h16 => ?_)
  refine ev_b bX6_of_19_22 (lv' := [(0, .ref 0), (1, .int (nI (x))), (2, .int (zI (z2)))]) (st' := [.int (-6), .ref 0]) (w2 := compW T S P U O B Q C R tl rf) rfl ?_
  refine ev_callV (Yc := mX6_refuse) (rng 0 49) dX6_of_22 tw_248 kX6_refuse (m_X6_refuse_6 T S P U O B Q C R tl rf) rfl (st := []) rfl rfl rfl (by decide) (same_hw (compW T S P U O B Q C R tl rf)) (by decide) (Nat.le_of_ble_eq_true rfl) (Nat.le_refl _) (Nat.le_refl _) (fun r w' h => by obtain ⟨-, rfl⟩ := h; exact Nat.le_of_ble_eq_true rfl) ?_
  rintro _ _ ⟨rfl, rfl⟩
  refine ev_eq (lv' := [(0, .ref 0), (1, .int (nI (x))), (2, .int (zI (z2)))]) (st' := [.int (-6)]) (w' := compW T S P U O B Q C R tl ((up rf 6 (rf 6 + 1)))) rfl rfl (same_xp (compW T S P U O B Q C R tl rf) (compW T S P U O B Q C R tl ((up rf 6 (rf 6 + 1)))) rfl) ?_
  exact ev_iret dX6_of_25 rfl (Nat.le_refl 49) (Nat.le_refl _) (Nat.le_refl _) ⟨rfl, _, _, _, _, _, _, rfl, hQ, rfl, rfl⟩
theorem bX6_of_26_27 {l : Launch} {E : XE} : Snd l E mX6_of 26 27 (xs [x_iload 2]) := Snd.cons (snd_iload_n (i := 2) dX6_of_26 rfl) Snd.nil
theorem bX6_of_33_36 {l : Launch} {E : XE} : Snd l E mX6_of 33 36 (xs [x_aload 0, x_push (.int (-2))]) := Snd.cons (snd_aload_n (i := 0) dX6_of_33 rfl) (Snd.cons (snd_bipush (v := -2) dX6_of_34 (by decide)) Snd.nil)
set_option maxHeartbeats 4000000 in
set_option maxRecDepth 100000 in
theorem p_of_2 {l : Launch} {E : XE} (T : TopN) (S P U : SaleN) (O : OutN) (B : BillN) (Q : SeaN) (C : ScrN) (R : PrtN) (tl rf : Nat → Nat) (x : Nat) (z2 : Int) (hS : SaleOK S) (hQ : Q.fd < 2147483648) (rz2 : -2147483648 ≤ z2 ∧ z2 < 2147483648) (hx : x < 1 <<< S.ca) (h : ¬ (z2 = 0 ∨ z2 = 1)) : MetE l E mX6_of (1) 0 0 [.ref 0, .int (nI (x)), .int (zI (z2))] (compW T S P U O B Q C R tl rf) (CP T S P (C.lt) (C.sz) tl (up rf 2 (rf 2 + 1)) (some (.int (-2)))) := by
  refine MetE.of (by decide +kernel) (Nat.le_of_ble_eq_true rfl) ?_
  have hca := hS.1
  have hpw := pow_ca hS
  have hac := ac_lt hS
  have hsh : 1 <<< S.ca ≤ 1024 := by rw [Nat.one_shiftLeft]; exact hpw
  refine ev_eq (lv' := [(0, .ref 0), (1, .int (nI (x))), (2, .int (zI (z2)))]) (st' := []) (w' := compW T S P U O B Q C R tl rf) rfl rfl rfl ?_
  refine ev_b bX6_of_0_1 (lv' := [(0, .ref 0), (1, .int (nI (x))), (2, .int (zI (z2)))]) (st' := [.int (nI (x))]) (w2 := compW T S P U O B Q C R tl rf) rfl ?_
  refine ev_if_ge_n (tgt := 11) (by omega) dX6_of_1 (by decide) (fun h1 => ?_) (fun h1 => (by exfalso; omega))
  refine ev_b bX6_of_11_13 (lv' := [(0, .ref 0), (1, .int (nI (x))), (2, .int (zI (z2)))]) (st' := [.int (nI (x)), .ref 0]) (w2 := compW T S P U O B Q C R tl rf) rfl ?_
  refine ev_callV (Yc := mX6_areBids) (rng 0 49) dX6_of_13 tw_617 kX6_areBids (m_X6_areBids T S P U O B Q C R tl rf x hS (by omega)) rfl (st := []) rfl rfl rfl (by decide) (same_hw (compW T S P U O B Q C R tl rf)) (by decide) (Nat.le_of_ble_eq_true rfl) (Nat.le_refl _) (Nat.le_refl _) (fun r w' h => by obtain ⟨-, rfl⟩ := h; exact Nat.le_of_ble_eq_true rfl) ?_
  rintro _ _ ⟨rfl, rfl⟩
  refine ev_eq (lv' := [(0, .ref 0), (1, .int (nI (x))), (2, .int (zI (z2)))]) (st' := [.int (nI (b01 (x < 1 <<< S.ca)))]) (w' := compW T S P U O B Q C R tl rf) rfl rfl (same_xp (compW T S P U O B Q C R tl rf) (compW T S P U O B Q C R tl rf) rfl) ?_
  refine ev_ifne_b (tgt := 26) dX6_of_16 (by decide) (fun h16 => ?_) (fun h16 => (by exfalso; omega))
  refine ev_b bX6_of_26_27 (lv' := [(0, .ref 0), (1, .int (nI (x))), (2, .int (zI (z2)))]) (st' := [.int (zI (z2))]) (w2 := compW T S P U O B Q C R tl rf) rfl ?_
  refine ev_callS (Yc := mX6_isEither) [] dX6_of_27 tw_667 kX6_isEither (m_X6_isEither_z z2 rz2) rfl (st := []) rfl (by decide) rfl (by decide) (Nat.le_of_ble_eq_true rfl) (Nat.le_refl _) (Nat.le_refl _) (fun r w' h => by obtain ⟨-, rfl⟩ := h; exact Nat.le_of_ble_eq_true rfl) ?_
  rintro _ _ ⟨rfl, rfl⟩
  refine ev_eq (lv' := [(0, .ref 0), (1, .int (nI (x))), (2, .int (zI (z2)))]) (st' := [.int (nI (b01 (z2 = 0 ∨ z2 = 1)))]) (w' := compW T S P U O B Q C R tl rf) rfl rfl rfl ?_
  refine ev_ifne_b (tgt := 40) dX6_of_30 (by decide) (fun h30 => (by exfalso; omega)) (fun h30 => ?_)
  refine ev_b bX6_of_33_36 (lv' := [(0, .ref 0), (1, .int (nI (x))), (2, .int (zI (z2)))]) (st' := [.int (-2), .ref 0]) (w2 := compW T S P U O B Q C R tl rf) rfl ?_
  refine ev_callV (Yc := mX6_refuse) (rng 0 49) dX6_of_36 tw_248 kX6_refuse (m_X6_refuse_2 T S P U O B Q C R tl rf) rfl (st := []) rfl rfl rfl (by decide) (same_hw (compW T S P U O B Q C R tl rf)) (by decide) (Nat.le_of_ble_eq_true rfl) (Nat.le_refl _) (Nat.le_refl _) (fun r w' h => by obtain ⟨-, rfl⟩ := h; exact Nat.le_of_ble_eq_true rfl) ?_
  rintro _ _ ⟨rfl, rfl⟩
  refine ev_eq (lv' := [(0, .ref 0), (1, .int (nI (x))), (2, .int (zI (z2)))]) (st' := [.int (-2)]) (w' := compW T S P U O B Q C R tl ((up rf 2 (rf 2 + 1)))) rfl rfl (same_xp (compW T S P U O B Q C R tl rf) (compW T S P U O B Q C R tl ((up rf 2 (rf 2 + 1)))) rfl) ?_
  exact ev_iret dX6_of_39 rfl (Nat.le_refl 49) (Nat.le_refl _) (Nat.le_refl _) ⟨rfl, _, _, _, _, _, _, rfl, hQ, rfl, rfl⟩
theorem bX6_of_40_48 {l : Launch} {E : XE} : Snd l E mX6_of 40 48 (xs [x_aload 0, x_get 7 3, x_aload 0, x_get 7 0]) := Snd.cons (snd_aload_n (i := 0) dX6_of_40 rfl) (Snd.cons (snd_get (ci := 7) (k := 3) dX6_of_41 rfl inX6 (by decide) tw_210) (Snd.cons (snd_aload_n (i := 0) dX6_of_44 rfl) (Snd.cons (snd_get (ci := 7) (k := 0) dX6_of_45 rfl inX6 (by decide) tw_207) Snd.nil)))
theorem bX6_of_51_56 {l : Launch} {E : XE} : Snd l E mX6_of 51 56 (xs [x_aload 0, x_get 7 3, x_iload 1]) := Snd.cons (snd_aload_n (i := 0) dX6_of_51 rfl) (Snd.cons (snd_get (ci := 7) (k := 3) dX6_of_52 rfl inX6 (by decide) tw_210) (Snd.cons (snd_iload_n (i := 1) dX6_of_55 rfl) Snd.nil))
theorem bX6_of_59_60 {l : Launch} {E : XE} : Snd l E mX6_of 59 60 (xs [x_iload 2]) := Snd.cons (snd_iload_n (i := 2) dX6_of_59 rfl) Snd.nil
set_option maxHeartbeats 4000000 in
set_option maxRecDepth 100000 in
theorem p_of_w0 {l : Launch} {E : XE} (T : TopN) (S P U : SaleN) (O : OutN) (B : BillN) (Q : SeaN) (C : ScrN) (R : PrtN) (tl rf : Nat → Nat) (x : Nat) (hS : SaleOK S) (hQ : Q.fd < 2147483648) (hx : x < 1 <<< S.ca) : MetE l E mX6_of (4) 0 0 [.ref 0, .int (nI (x)), .int (nI (0))] (compW T S P U O B Q C R tl rf) (CP T S P (C.lt) (C.sz) tl rf (some (.int (nI (winB S x))))) := by
  refine MetE.of (by decide +kernel) (Nat.le_of_ble_eq_true rfl) ?_
  have hca := hS.1
  have hpw := pow_ca hS
  have hac := ac_lt hS
  have hsh : 1 <<< S.ca ≤ 1024 := by rw [Nat.one_shiftLeft]; exact hpw
  obtain ⟨-, -, -, -, -, -, -, -, hk1, hk2, -⟩ := wK_spec hS x
  refine ev_eq (lv' := [(0, .ref 0), (1, .int (nI (x))), (2, .int (nI (0)))]) (st' := []) (w' := compW T S P U O B Q C R tl rf) rfl rfl rfl ?_
  refine ev_b bX6_of_0_1 (lv' := [(0, .ref 0), (1, .int (nI (x))), (2, .int (nI (0)))]) (st' := [.int (nI (x))]) (w2 := compW T S P U O B Q C R tl rf) rfl ?_
  refine ev_if_ge_n (tgt := 11) (by omega) dX6_of_1 (by decide) (fun h1 => ?_) (fun h1 => (by exfalso; omega))
  refine ev_b bX6_of_11_13 (lv' := [(0, .ref 0), (1, .int (nI (x))), (2, .int (nI (0)))]) (st' := [.int (nI (x)), .ref 0]) (w2 := compW T S P U O B Q C R tl rf) rfl ?_
  refine ev_callV (Yc := mX6_areBids) (rng 0 49) dX6_of_13 tw_617 kX6_areBids (m_X6_areBids T S P U O B Q C R tl rf x hS (by omega)) rfl (st := []) rfl rfl rfl (by decide) (same_hw (compW T S P U O B Q C R tl rf)) (by decide) (Nat.le_of_ble_eq_true rfl) (Nat.le_refl _) (Nat.le_refl _) (fun r w' h => by obtain ⟨-, rfl⟩ := h; exact Nat.le_of_ble_eq_true rfl) ?_
  rintro _ _ ⟨rfl, rfl⟩
  refine ev_eq (lv' := [(0, .ref 0), (1, .int (nI (x))), (2, .int (nI (0)))]) (st' := [.int (nI (b01 (x < 1 <<< S.ca)))]) (w' := compW T S P U O B Q C R tl rf) rfl rfl (same_xp (compW T S P U O B Q C R tl rf) (compW T S P U O B Q C R tl rf) rfl) ?_
  refine ev_ifne_b (tgt := 26) dX6_of_16 (by decide) (fun h16 => ?_) (fun h16 => (by exfalso; omega))
  refine ev_b bX6_of_26_27 (lv' := [(0, .ref 0), (1, .int (nI (x))), (2, .int (nI (0)))]) (st' := [.int (nI (0))]) (w2 := compW T S P U O B Q C R tl rf) rfl ?_
  refine ev_callS (Yc := mX6_isEither) [] dX6_of_27 tw_667 kX6_isEither m_X6_isEither_0 rfl (st := []) rfl (by decide) rfl (by decide) (Nat.le_of_ble_eq_true rfl) (Nat.le_refl _) (Nat.le_refl _) (fun r w' h => by obtain ⟨-, rfl⟩ := h; exact Nat.le_of_ble_eq_true rfl) ?_
  rintro _ _ ⟨rfl, rfl⟩
  refine ev_eq (lv' := [(0, .ref 0), (1, .int (nI (x))), (2, .int (nI (0)))]) (st' := [.int (nI (1))]) (w' := compW T S P U O B Q C R tl rf) rfl rfl rfl ?_
  refine ev_if_ne_n (tgt := 40) (by decide) dX6_of_30 (by decide) (fun h30 => ?_) (fun h30 => (by exfalso; omega))
  refine ev_b bX6_of_40_48 (lv' := [(0, .ref 0), (1, .int (nI (x))), (2, .int (nI (0)))]) (st' := [.ref 1, .ref 25]) (w2 := compW T S P U O B Q C R tl rf) rfl ?_
  refine ev_callVN (Yc := mX1_gather) [25, 26, 27, 28, 29, 1, 2, 3, 4, 5, 6, 7, 8] dX6_of_48 tn_497 kX1_gather (m_X1_gather O S hS) rfl (st := []) rfl rfl rfl (by decide) hw_comp__25_1 (by decide) (Nat.le_of_ble_eq_true rfl) (Nat.le_refl _) (Nat.le_refl _) (fun r w' h => by obtain ⟨-, O', rfl, -⟩ := h; exact Nat.le_of_ble_eq_true rfl) ?_
  rintro _ _ ⟨rfl, O1, rfl, hK1⟩
  refine ev_eq (lv' := [(0, .ref 0), (1, .int (nI (x))), (2, .int (nI (0)))]) (st' := []) (w' := compW T S P U O1 B Q C R tl rf) rfl rfl xp_comp__25_1 ?_
  refine ev_b bX6_of_51_56 (lv' := [(0, .ref 0), (1, .int (nI (x))), (2, .int (nI (0)))]) (st' := [.int (nI (x)), .ref 25]) (w2 := compW T S P U O1 B Q C R tl rf) rfl ?_
  refine ev_callVN (Yc := mX1_first) [25, 26, 27, 28, 29] dX6_of_56 tn_543 kX1_first (m_X1_first O1 (x) (keys_ok hS hK1)) rfl (st := []) rfl rfl rfl (by decide) hw_comp__25 (by decide) (Nat.le_of_ble_eq_true rfl) (Nat.le_refl _) (Nat.le_refl _) (fun r w' h => by obtain ⟨-, rfl⟩ := h; exact Nat.le_of_ble_eq_true rfl) ?_
  rintro _ _ ⟨rfl, rfl⟩
  refine ev_eq (lv' := [(0, .ref 0), (1, .int (nI (x))), (2, .int (nI (0)))]) (st' := [.int (nI (firstTo O1.ke (x) O1.sz))]) (w' := compW T S P U O1 B Q C R tl rf) rfl rfl xp_comp__25 ?_
  refine ev_top (y := (nI (wK S (x)))) (congrArg nI (show firstTo O1.ke (x) O1.sz = wK S (x) from by exact first_L hK1 _)) ?_
  refine ev_b bX6_of_59_60 (lv' := [(0, .ref 0), (1, .int (nI (x))), (2, .int (nI (0)))]) (st' := [.int (nI (0)), .int (nI (wK S (x)))]) (w2 := compW T S P U O1 B Q C R tl rf) rfl ?_
  refine ev_callS (Yc := mX6_bidsOrWorth) [] dX6_of_60 tw_678 kX6_bidsOrWorth (m_X6_bidsOrWorth_0 (wK S x)) rfl (st := []) rfl (by decide) rfl (by decide) (Nat.le_of_ble_eq_true rfl) (Nat.le_refl _) (Nat.le_refl _) (fun r w' h => by obtain ⟨-, rfl⟩ := h; exact Nat.le_of_ble_eq_true rfl) ?_
  rintro _ _ ⟨rfl, rfl⟩
  refine ev_eq (lv' := [(0, .ref 0), (1, .int (nI (x))), (2, .int (nI (0)))]) (st' := [.int (nI (bidsN (wK S x)))]) (w' := compW T S P U O1 B Q C R tl rf) rfl rfl rfl ?_
  refine ev_top (y := (nI (winB S x))) (congrArg nI (show bidsN (wK S x) = winB S x from by rfl)) ?_
  exact ev_iret dX6_of_63 rfl (Nat.le_refl 49) (Nat.le_refl _) (Nat.le_refl _) ⟨rfl, _, _, _, _, _, _, rfl, hQ, rfl, rfl⟩
set_option maxHeartbeats 4000000 in
set_option maxRecDepth 100000 in
theorem p_of_w1 {l : Launch} {E : XE} (T : TopN) (S P U : SaleN) (O : OutN) (B : BillN) (Q : SeaN) (C : ScrN) (R : PrtN) (tl rf : Nat → Nat) (x : Nat) (hS : SaleOK S) (hQ : Q.fd < 2147483648) (hx : x < 1 <<< S.ca) : MetE l E mX6_of (4) 0 0 [.ref 0, .int (nI (x)), .int (nI (1))] (compW T S P U O B Q C R tl rf) (CP T S P (C.lt) (C.sz) tl rf (some (.int (nI (winW S x))))) := by
  refine MetE.of (by decide +kernel) (Nat.le_of_ble_eq_true rfl) ?_
  have hca := hS.1
  have hpw := pow_ca hS
  have hac := ac_lt hS
  have hsh : 1 <<< S.ca ≤ 1024 := by rw [Nat.one_shiftLeft]; exact hpw
  obtain ⟨-, -, -, -, -, -, -, -, hk1, hk2, -⟩ := wK_spec hS x
  refine ev_eq (lv' := [(0, .ref 0), (1, .int (nI (x))), (2, .int (nI (1)))]) (st' := []) (w' := compW T S P U O B Q C R tl rf) rfl rfl rfl ?_
  refine ev_b bX6_of_0_1 (lv' := [(0, .ref 0), (1, .int (nI (x))), (2, .int (nI (1)))]) (st' := [.int (nI (x))]) (w2 := compW T S P U O B Q C R tl rf) rfl ?_
  refine ev_if_ge_n (tgt := 11) (by omega) dX6_of_1 (by decide) (fun h1 => ?_) (fun h1 => (by exfalso; omega))
  refine ev_b bX6_of_11_13 (lv' := [(0, .ref 0), (1, .int (nI (x))), (2, .int (nI (1)))]) (st' := [.int (nI (x)), .ref 0]) (w2 := compW T S P U O B Q C R tl rf) rfl ?_
  refine ev_callV (Yc := mX6_areBids) (rng 0 49) dX6_of_13 tw_617 kX6_areBids (m_X6_areBids T S P U O B Q C R tl rf x hS (by omega)) rfl (st := []) rfl rfl rfl (by decide) (same_hw (compW T S P U O B Q C R tl rf)) (by decide) (Nat.le_of_ble_eq_true rfl) (Nat.le_refl _) (Nat.le_refl _) (fun r w' h => by obtain ⟨-, rfl⟩ := h; exact Nat.le_of_ble_eq_true rfl) ?_
  rintro _ _ ⟨rfl, rfl⟩
  refine ev_eq (lv' := [(0, .ref 0), (1, .int (nI (x))), (2, .int (nI (1)))]) (st' := [.int (nI (b01 (x < 1 <<< S.ca)))]) (w' := compW T S P U O B Q C R tl rf) rfl rfl (same_xp (compW T S P U O B Q C R tl rf) (compW T S P U O B Q C R tl rf) rfl) ?_
  refine ev_ifne_b (tgt := 26) dX6_of_16 (by decide) (fun h16 => ?_) (fun h16 => (by exfalso; omega))
  refine ev_b bX6_of_26_27 (lv' := [(0, .ref 0), (1, .int (nI (x))), (2, .int (nI (1)))]) (st' := [.int (nI (1))]) (w2 := compW T S P U O B Q C R tl rf) rfl ?_
  refine ev_callS (Yc := mX6_isEither) [] dX6_of_27 tw_667 kX6_isEither m_X6_isEither_1 rfl (st := []) rfl (by decide) rfl (by decide) (Nat.le_of_ble_eq_true rfl) (Nat.le_refl _) (Nat.le_refl _) (fun r w' h => by obtain ⟨-, rfl⟩ := h; exact Nat.le_of_ble_eq_true rfl) ?_
  rintro _ _ ⟨rfl, rfl⟩
  refine ev_eq (lv' := [(0, .ref 0), (1, .int (nI (x))), (2, .int (nI (1)))]) (st' := [.int (nI (1))]) (w' := compW T S P U O B Q C R tl rf) rfl rfl rfl ?_
  refine ev_if_ne_n (tgt := 40) (by decide) dX6_of_30 (by decide) (fun h30 => ?_) (fun h30 => (by exfalso; omega))
  refine ev_b bX6_of_40_48 (lv' := [(0, .ref 0), (1, .int (nI (x))), (2, .int (nI (1)))]) (st' := [.ref 1, .ref 25]) (w2 := compW T S P U O B Q C R tl rf) rfl ?_
  refine ev_callVN (Yc := mX1_gather) [25, 26, 27, 28, 29, 1, 2, 3, 4, 5, 6, 7, 8] dX6_of_48 tn_497 kX1_gather (m_X1_gather O S hS) rfl (st := []) rfl rfl rfl (by decide) hw_comp__25_1 (by decide) (Nat.le_of_ble_eq_true rfl) (Nat.le_refl _) (Nat.le_refl _) (fun r w' h => by obtain ⟨-, O', rfl, -⟩ := h; exact Nat.le_of_ble_eq_true rfl) ?_
  rintro _ _ ⟨rfl, O1, rfl, hK1⟩
  refine ev_eq (lv' := [(0, .ref 0), (1, .int (nI (x))), (2, .int (nI (1)))]) (st' := []) (w' := compW T S P U O1 B Q C R tl rf) rfl rfl xp_comp__25_1 ?_
  refine ev_b bX6_of_51_56 (lv' := [(0, .ref 0), (1, .int (nI (x))), (2, .int (nI (1)))]) (st' := [.int (nI (x)), .ref 25]) (w2 := compW T S P U O1 B Q C R tl rf) rfl ?_
  refine ev_callVN (Yc := mX1_first) [25, 26, 27, 28, 29] dX6_of_56 tn_543 kX1_first (m_X1_first O1 (x) (keys_ok hS hK1)) rfl (st := []) rfl rfl rfl (by decide) hw_comp__25 (by decide) (Nat.le_of_ble_eq_true rfl) (Nat.le_refl _) (Nat.le_refl _) (fun r w' h => by obtain ⟨-, rfl⟩ := h; exact Nat.le_of_ble_eq_true rfl) ?_
  rintro _ _ ⟨rfl, rfl⟩
  refine ev_eq (lv' := [(0, .ref 0), (1, .int (nI (x))), (2, .int (nI (1)))]) (st' := [.int (nI (firstTo O1.ke (x) O1.sz))]) (w' := compW T S P U O1 B Q C R tl rf) rfl rfl xp_comp__25 ?_
  refine ev_top (y := (nI (wK S (x)))) (congrArg nI (show firstTo O1.ke (x) O1.sz = wK S (x) from by exact first_L hK1 _)) ?_
  refine ev_b bX6_of_59_60 (lv' := [(0, .ref 0), (1, .int (nI (x))), (2, .int (nI (1)))]) (st' := [.int (nI (1)), .int (nI (wK S (x)))]) (w2 := compW T S P U O1 B Q C R tl rf) rfl ?_
  refine ev_callS (Yc := mX6_bidsOrWorth) [] dX6_of_60 tw_678 kX6_bidsOrWorth (m_X6_bidsOrWorth_1 (wK S x) hk1 hk2) rfl (st := []) rfl (by decide) rfl (by decide) (Nat.le_of_ble_eq_true rfl) (Nat.le_refl _) (Nat.le_refl _) (fun r w' h => by obtain ⟨-, rfl⟩ := h; exact Nat.le_of_ble_eq_true rfl) ?_
  rintro _ _ ⟨rfl, rfl⟩
  refine ev_eq (lv' := [(0, .ref 0), (1, .int (nI (x))), (2, .int (nI (1)))]) (st' := [.int (nI (worthK (wK S x)))]) (w' := compW T S P U O1 B Q C R tl rf) rfl rfl rfl ?_
  refine ev_top (y := (nI (winW S x))) (congrArg nI (show worthK (wK S x) = winW S x from by rfl)) ?_
  exact ev_iret dX6_of_63 rfl (Nat.le_refl 49) (Nat.le_refl _) (Nat.le_refl _) ⟨rfl, _, _, _, _, _, _, rfl, hQ, rfl, rfl⟩
theorem bX6_without_0_5 {l : Launch} {E : XE} : Snd l E mX6_without 0 5 (xs [x_aload 0, x_get 7 0, x_iload 1]) := Snd.cons (snd_aload_n (i := 0) dX6_without_0 rfl) (Snd.cons (snd_get (ci := 7) (k := 0) dX6_without_1 rfl inX6 (by decide) tw_207) (Snd.cons (snd_iload_n (i := 1) dX6_without_4 rfl) Snd.nil))
theorem bX6_without_11_13 {l : Launch} {E : XE} : Snd l E mX6_without 11 13 (xs [x_aload 0, x_push (.int (-1))]) := Snd.cons (snd_aload_n (i := 0) dX6_without_11 rfl) (Snd.cons (snd_iconst (v := -1) dX6_without_12 (by decide)) Snd.nil)
set_option maxHeartbeats 4000000 in
set_option maxRecDepth 100000 in
theorem p_without_1 {l : Launch} {E : XE} (T : TopN) (S P U : SaleN) (O : OutN) (B : BillN) (Q : SeaN) (C : ScrN) (R : PrtN) (tl rf : Nat → Nat) (z1 : Int) (hS : SaleOK S) (hQ : Q.fd < 2147483648) (rz1 : -2147483648 ≤ z1 ∧ z1 < 2147483648) (h : ¬ (0 ≤ z1 ∧ z1 < S.ca)) : MetE l E mX6_without (1) 0 0 [.ref 0, .int (zI (z1))] (compW T S P U O B Q C R tl rf) (CP T S P (C.lt) (C.sz) tl (up rf 1 (rf 1 + 1)) (some (.int (-1)))) := by
  refine MetE.of (by decide +kernel) (Nat.le_of_ble_eq_true rfl) ?_
  have hca := hS.1
  have hpw := pow_ca hS
  have hac := ac_lt hS
  
  refine ev_eq (lv' := [(0, .ref 0), (1, .int (zI (z1)))]) (st' := []) (w' := compW T S P U O B Q C R tl rf) rfl rfl rfl ?_
  refine ev_b bX6_without_0_5 (lv' := [(0, .ref 0), (1, .int (zI (z1)))]) (st' := [.int (zI (z1)), .ref 1]) (w2 := compW T S P U O B Q C R tl rf) rfl ?_
  refine ev_callVN (Yc := mX3_hasBid) [1, 2, 3, 4, 5, 6, 7, 8] dX6_without_5 tn_444 kX3_hasBid (m_X3_hasBid_z S z1 hS rz1) rfl (st := []) rfl rfl rfl (by decide) hw_comp__1 (by decide) (Nat.le_of_ble_eq_true rfl) (Nat.le_refl _) (Nat.le_refl _) (fun r w' h => by obtain ⟨-, rfl⟩ := h; exact Nat.le_of_ble_eq_true rfl) ?_
  rintro _ _ ⟨rfl, rfl⟩
  refine ev_eq (lv' := [(0, .ref 0), (1, .int (zI (z1)))]) (st' := [.int (nI (b01 (0 ≤ z1 ∧ z1 < S.ca)))]) (w' := compW T S P U O B Q C R tl rf) rfl rfl xp_comp__1 ?_
  refine ev_ifne_b (tgt := 17) dX6_without_8 (by decide) (fun h8 => (by exfalso; omega)) (fun h8 => ?_)
  refine ev_b bX6_without_11_13 (lv' := [(0, .ref 0), (1, .int (zI (z1)))]) (st' := [.int (-1), .ref 0]) (w2 := compW T S P U O B Q C R tl rf) rfl ?_
  refine ev_callV (Yc := mX6_refuse) (rng 0 49) dX6_without_13 tw_248 kX6_refuse (m_X6_refuse_1 T S P U O B Q C R tl rf) rfl (st := []) rfl rfl rfl (by decide) (same_hw (compW T S P U O B Q C R tl rf)) (by decide) (Nat.le_of_ble_eq_true rfl) (Nat.le_refl _) (Nat.le_refl _) (fun r w' h => by obtain ⟨-, rfl⟩ := h; exact Nat.le_of_ble_eq_true rfl) ?_
  rintro _ _ ⟨rfl, rfl⟩
  refine ev_eq (lv' := [(0, .ref 0), (1, .int (zI (z1)))]) (st' := [.int (-1)]) (w' := compW T S P U O B Q C R tl ((up rf 1 (rf 1 + 1)))) rfl rfl (same_xp (compW T S P U O B Q C R tl rf) (compW T S P U O B Q C R tl ((up rf 1 (rf 1 + 1)))) rfl) ?_
  exact ev_iret dX6_without_16 rfl (Nat.le_refl 49) (Nat.le_refl _) (Nat.le_refl _) ⟨rfl, _, _, _, _, _, _, rfl, hQ, rfl, rfl⟩
theorem bX6_without_17_25 {l : Launch} {E : XE} : Snd l E mX6_without 17 25 (xs [x_aload 0, x_get 7 3, x_aload 0, x_get 7 0]) := Snd.cons (snd_aload_n (i := 0) dX6_without_17 rfl) (Snd.cons (snd_get (ci := 7) (k := 3) dX6_without_18 rfl inX6 (by decide) tw_210) (Snd.cons (snd_aload_n (i := 0) dX6_without_21 rfl) (Snd.cons (snd_get (ci := 7) (k := 0) dX6_without_22 rfl inX6 (by decide) tw_207) Snd.nil)))
theorem bX6_without_28_37 {l : Launch} {E : XE} : Snd l E mX6_without 28 37 (xs [x_aload 0, x_get 7 3, x_push (.int (nI 1023)), x_push (.int (nI 1)), x_iload 1]) := Snd.cons (snd_aload_n (i := 0) dX6_without_28 rfl) (Snd.cons (snd_get (ci := 7) (k := 3) dX6_without_29 rfl inX6 (by decide) tw_210) (Snd.cons (snd_sipush (v := nI 1023) dX6_without_32 (by decide)) (Snd.cons (snd_iconst (v := nI 1) dX6_without_35 (by decide)) (Snd.cons (snd_iload_n (i := 1) dX6_without_36 rfl) Snd.nil))))
theorem bX6_without_38_40 {l : Launch} {E : XE} : Snd l E mX6_without 38 40 (xs [x_push (.int (-1)), x_i2 (fun x y => x ^^^ y)]) := Snd.cons (snd_iconst (v := -1) dX6_without_38 (by decide)) (Snd.cons (snd_ixor dX6_without_39) Snd.nil)
set_option maxHeartbeats 4000000 in
set_option maxRecDepth 100000 in
theorem p_without_ok {l : Launch} {E : XE} (T : TopN) (S P U : SaleN) (O : OutN) (B : BillN) (Q : SeaN) (C : ScrN) (R : PrtN) (tl rf : Nat → Nat) (k : Nat) (hS : SaleOK S) (hQ : Q.fd < 2147483648) (hk : k < S.ca) : MetE l E mX6_without (4) 0 0 [.ref 0, .int (nI (k))] (compW T S P U O B Q C R tl rf) (CP T S P (C.lt) (C.sz) tl rf (some (.int (nI (winW S (andn 1023 (1 <<< k))))))) := by
  refine MetE.of (by decide +kernel) (Nat.le_of_ble_eq_true rfl) ?_
  have hca := hS.1
  have hpw := pow_ca hS
  have hac := ac_lt hS
  obtain ⟨-, -, -, -, -, -, -, -, hk1, hk2, -⟩ := wK_spec hS (andn 1023 (1 <<< k))
  refine ev_eq (lv' := [(0, .ref 0), (1, .int (nI (k)))]) (st' := []) (w' := compW T S P U O B Q C R tl rf) rfl rfl rfl ?_
  refine ev_b bX6_without_0_5 (lv' := [(0, .ref 0), (1, .int (nI (k)))]) (st' := [.int (nI (k)), .ref 1]) (w2 := compW T S P U O B Q C R tl rf) rfl ?_
  refine ev_callVN (Yc := mX3_hasBid) [1, 2, 3, 4, 5, 6, 7, 8] dX6_without_5 tn_444 kX3_hasBid (m_X3_hasBid S k hS (by omega)) rfl (st := []) rfl rfl rfl (by decide) hw_comp__1 (by decide) (Nat.le_of_ble_eq_true rfl) (Nat.le_refl _) (Nat.le_refl _) (fun r w' h => by obtain ⟨-, rfl⟩ := h; exact Nat.le_of_ble_eq_true rfl) ?_
  rintro _ _ ⟨rfl, rfl⟩
  refine ev_eq (lv' := [(0, .ref 0), (1, .int (nI (k)))]) (st' := [.int (nI (b01 (k < S.ca)))]) (w' := compW T S P U O B Q C R tl rf) rfl rfl xp_comp__1 ?_
  refine ev_ifne_b (tgt := 17) dX6_without_8 (by decide) (fun h8 => ?_) (fun h8 => (by exfalso; omega))
  refine ev_b bX6_without_17_25 (lv' := [(0, .ref 0), (1, .int (nI (k)))]) (st' := [.ref 1, .ref 25]) (w2 := compW T S P U O B Q C R tl rf) rfl ?_
  refine ev_callVN (Yc := mX1_gather) [25, 26, 27, 28, 29, 1, 2, 3, 4, 5, 6, 7, 8] dX6_without_25 tn_497 kX1_gather (m_X1_gather O S hS) rfl (st := []) rfl rfl rfl (by decide) hw_comp__25_1 (by decide) (Nat.le_of_ble_eq_true rfl) (Nat.le_refl _) (Nat.le_refl _) (fun r w' h => by obtain ⟨-, O', rfl, -⟩ := h; exact Nat.le_of_ble_eq_true rfl) ?_
  rintro _ _ ⟨rfl, O1, rfl, hK1⟩
  refine ev_eq (lv' := [(0, .ref 0), (1, .int (nI (k)))]) (st' := []) (w' := compW T S P U O1 B Q C R tl rf) rfl rfl xp_comp__25_1 ?_
  refine ev_b bX6_without_28_37 (lv' := [(0, .ref 0), (1, .int (nI (k)))]) (st' := [.int (nI (k)), .int (nI (1)), .int (nI (1023)), .ref 25]) (w2 := compW T S P U O1 B Q C R tl rf) rfl ?_
  refine ev_ishl_n (by omega) dX6_without_37 ?_
  refine ev_b bX6_without_38_40 (lv' := [(0, .ref 0), (1, .int (nI (k)))]) (st' := [.int (nI (1 <<< k) ^^^ (-1)), .int (nI (1023)), .ref 25]) (w2 := compW T S P U O1 B Q C R tl rf) rfl ?_
  refine ev_iandn_n dX6_without_40 ?_
  refine ev_callVN (Yc := mX1_first) [25, 26, 27, 28, 29] dX6_without_41 tn_543 kX1_first (m_X1_first O1 (andn 1023 (1 <<< k)) (keys_ok hS hK1)) rfl (st := []) rfl rfl rfl (by decide) hw_comp__25 (by decide) (Nat.le_of_ble_eq_true rfl) (Nat.le_refl _) (Nat.le_refl _) (fun r w' h => by obtain ⟨-, rfl⟩ := h; exact Nat.le_of_ble_eq_true rfl) ?_
  rintro _ _ ⟨rfl, rfl⟩
  refine ev_eq (lv' := [(0, .ref 0), (1, .int (nI (k)))]) (st' := [.int (nI (firstTo O1.ke (andn 1023 (1 <<< k)) O1.sz))]) (w' := compW T S P U O1 B Q C R tl rf) rfl rfl xp_comp__25 ?_
  refine ev_top (y := (nI (wK S (andn 1023 (1 <<< k))))) (congrArg nI (show firstTo O1.ke (andn 1023 (1 <<< k)) O1.sz = wK S (andn 1023 (1 <<< k)) from by exact first_L hK1 _)) ?_
  refine ev_callSN (Yc := mX1_worthIn) [] dX6_without_44 tn_633 kX1_worthIn (m_X1_worthIn (wK S (andn 1023 (1 <<< k))) hk1 hk2) rfl (st := []) rfl (by decide) rfl (by decide) (Nat.le_of_ble_eq_true rfl) (Nat.le_refl _) (Nat.le_refl _) (fun r w' h => by obtain ⟨-, rfl⟩ := h; exact Nat.le_of_ble_eq_true rfl) ?_
  rintro _ _ ⟨rfl, rfl⟩
  refine ev_eq (lv' := [(0, .ref 0), (1, .int (nI (k)))]) (st' := [.int (nI (worthK (wK S (andn 1023 (1 <<< k)))))]) (w' := compW T S P U O1 B Q C R tl rf) rfl rfl rfl ?_
  refine ev_top (y := (nI (winW S (andn 1023 (1 <<< k))))) (congrArg nI (show worthK (wK S (andn 1023 (1 <<< k))) = winW S (andn 1023 (1 <<< k)) from by rfl)) ?_
  exact ev_iret dX6_without_47 rfl (Nat.le_refl 49) (Nat.le_refl _) (Nat.le_refl _) ⟨rfl, _, _, _, _, _, _, rfl, hQ, rfl, rfl⟩
