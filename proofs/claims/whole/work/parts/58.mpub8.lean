theorem bX7_common_0_3 {l : Launch} {E : XE} : Snd l E mX7_common 0 3 (xs [x_lload 2, x_push (.long 0), x_lcmp]) := Snd.cons (snd_lload_n (i := 2) dX7_common_0 rfl) (Snd.cons (snd_lconst (v := 0) dX7_common_1 (by decide)) (Snd.cons (snd_lcmp dX7_common_2) Snd.nil))
theorem bX7_common_19_20 {l : Launch} {E : XE} : Snd l E mX7_common 19 20 (xs [x_lload 0]) := Snd.cons (snd_lload_n (i := 0) dX7_common_19 rfl) Snd.nil
theorem bX7_common_6_8 {l : Launch} {E : XE} : Snd l E mX7_common 6 8 (xs [x_lload 0, x_lload 2]) := Snd.cons (snd_lload_n (i := 0) dX7_common_6 rfl) (Snd.cons (snd_lload_n (i := 2) dX7_common_7 rfl) Snd.nil)
theorem bX7_common_9_0 {l : Launch} {E : XE} : Snd l E mX7_common 9 0 (xs [x_lstore 4, x_lload 2, x_lstore 0, x_lload 4, x_lstore 2, x_id]) := Snd.cons (snd_lstore dX7_common_9 (by decide)) (Snd.cons (snd_lload_n (i := 2) dX7_common_11 rfl) (Snd.cons (snd_lstore_n (i := 0) dX7_common_12 rfl (by decide)) (Snd.cons (snd_lload dX7_common_13) (Snd.cons (snd_lstore_n (i := 2) dX7_common_15 rfl (by decide)) (Snd.cons (snd_goto (tgt := 0) dX7_common_16 (by decide)) Snd.nil)))))
set_option maxHeartbeats 4000000 in
set_option maxRecDepth 100000 in
theorem m_X7_common {l : Launch} {E : XE} (a b : Nat) (ha : a < big) (hb : b < big) : MetE l E mX7_common (0) 0 0 [.long (lN a), .long (lN b)] ([]) (fun r w' => r = some (.long (lN (Nat.gcd a b))) ∧ w' = []) := by
  refine MetE.of (by decide +kernel) (Nat.le_of_ble_eq_true rfl) ?_
  refine ev_eq (lv' := [(0, .long (lN a)), (2, .long (lN b))]) (st' := []) (w' := []) rfl rfl rfl ?_
  have L0 : ∀ (j_ k : Nat), k + j_ = 200 → ∀ (x y : Nat), (EuI a b k x y) → Ev l E mX7_common (0) 0 0 ([]) (fun r w' => r = some (.long (lN (Nat.gcd a b))) ∧ w' = []) 0 0 0 [(0, .long (lN x)), (2, .long (lN y))] [] ([]) := by
    intro j_
    induction j_ with
    | zero =>
      intro k hk0 x y hinv0
      replace hk0 : k = 200 := hk0
      have hy := eu_end (x := x) (y := y) (by rw [← hk0]; exact hinv0)
      refine ev_b bX7_common_0_3 (lv' := [(0, .long (lN x)), (2, .long (lN y))]) (st' := [.int (lg_cmp (lN y) 0)]) (w2 := []) rfl ?_
      refine ev_if_eq (tgt := 19) dX7_common_3 (by decide) (fun h3 => ?_) (fun h3 => (by exact absurd ((lcmp_0 hinv0.2.2.1).mpr hy) h3))
      refine ev_b bX7_common_19_20 (lv' := [(0, .long (lN x)), (2, .long (lN y))]) (st' := [.long (lN x)]) (w2 := []) rfl ?_
      exact ev_lret dX7_common_20 rfl (Nat.le_of_ble_eq_true rfl) (Nat.le_refl _) (Nat.le_refl _) ⟨(by have hy0 := (lcmp_0 hinv0.2.2.1).mp h3; rw [hy0] at hinv0; rw [eu_gcd hinv0]), rfl⟩
    | succ j_ ih0 =>
      intro k hk0 x y hinv0
      have hlt0 : k < 200 := by omega
      refine ev_b bX7_common_0_3 (lv' := [(0, .long (lN x)), (2, .long (lN y))]) (st' := [.int (lg_cmp (lN y) 0)]) (w2 := []) rfl ?_
      refine ev_if_eq (tgt := 19) dX7_common_3 (by decide) (fun h3 => ?_) (fun h3 => ?_)
      · skip
        refine ev_b bX7_common_19_20 (lv' := [(0, .long (lN x)), (2, .long (lN y))]) (st' := [.long (lN x)]) (w2 := []) rfl ?_
        exact ev_lret dX7_common_20 rfl (Nat.le_of_ble_eq_true rfl) (Nat.le_refl _) (Nat.le_refl _) ⟨(by have hy0 := (lcmp_0 hinv0.2.2.1).mp h3; rw [hy0] at hinv0; rw [eu_gcd hinv0]), rfl⟩
      · skip
        refine ev_b bX7_common_6_8 (lv' := [(0, .long (lN x)), (2, .long (lN y))]) (st' := [.long (lN y), .long (lN x)]) (w2 := []) rfl ?_
        refine ev_lrem dX7_common_8 (by exact lN_ne hinv0.2.2.1 (fun z => h3 ((lcmp_0 hinv0.2.2.1).mpr z))) ?_
        refine ev_topL (y := lN (x % y)) (by exact lN_rem hinv0.2.1 hinv0.2.2.1) ?_
        refine ev_b bX7_common_9_0 (lv' := [(2, .long (lN (x % y))), (0, .long (lN y)), (4, .long (lN (x % y)))]) (st' := []) (w2 := []) rfl ?_
        refine ev_pick (lv' := [(0, .long (lN y)), (2, .long (lN (x % y)))]) rfl ?_
        exact ih0 (k + 1) (by omega) _ _ (eu_step hinv0 (fun z => h3 ((lcmp_0 hinv0.2.2.1).mpr z)))
  exact L0 200 0 (by omega) a b (eu_start ha hb)
theorem bX7_partOf_0_2 {l : Launch} {E : XE} : Snd l E mX7_partOf 0 2 (xs [x_iload 4]) := Snd.cons (snd_iload dX7_partOf_0) Snd.nil
theorem bX7_partOf_5_12 {l : Launch} {E : XE} : Snd l E mX7_partOf 5 12 (xs [x_lload 0, x_id, x_lload 0, x_lload 2]) := Snd.cons (snd_lload_n (i := 0) dX7_partOf_5 rfl) (Snd.cons (snd_goto (tgt := 10) dX7_partOf_6 (by decide)) (Snd.cons (snd_lload_n (i := 0) dX7_partOf_10 rfl) (Snd.cons (snd_lload_n (i := 2) dX7_partOf_11 rfl) Snd.nil)))
set_option maxHeartbeats 4000000 in
set_option maxRecDepth 100000 in
theorem m_X7_partOf_0 {l : Launch} {E : XE} (a b : Nat) (ha : a < big) (hb : b < big) (h0 : b ≠ 0) : MetE l E mX7_partOf (1) 0 0 [.long (lN a), .long (lN b), .int (nI (0))] ([]) (fun r w' => r = some (.long (lN (frN a b 0))) ∧ w' = []) := by
  refine MetE.of (by decide +kernel) (Nat.le_of_ble_eq_true rfl) ?_
  refine ev_eq (lv' := [(0, .long (lN a)), (2, .long (lN b)), (4, .int (nI (0)))]) (st' := []) (w' := []) rfl rfl rfl ?_
  refine ev_b bX7_partOf_0_2 (lv' := [(0, .long (lN a)), (2, .long (lN b)), (4, .int (nI (0)))]) (st' := [.int (nI (0))]) (w2 := []) rfl ?_
  refine ev_if_ne_n (tgt := 9) (by decide) dX7_partOf_2 (by decide) (fun h2 => (by exfalso; omega)) (fun h2 => ?_)
  refine ev_b bX7_partOf_5_12 (lv' := [(0, .long (lN a)), (2, .long (lN b)), (4, .int (nI (0)))]) (st' := [.long (lN b), .long (lN a), .long (lN a)]) (w2 := []) rfl ?_
  refine ev_callS (Yc := mX7_common) [] dX7_partOf_12 tw_1290 kX7_common (m_X7_common a b ha hb) rfl (st := [.long (lN a)]) rfl (by decide) rfl (by decide) (Nat.le_of_ble_eq_true rfl) (Nat.le_refl _) (Nat.le_refl _) (fun r w' h => by obtain ⟨-, rfl⟩ := h; exact Nat.le_of_ble_eq_true rfl) ?_
  rintro _ _ ⟨rfl, rfl⟩
  refine ev_eq (lv' := [(0, .long (lN a)), (2, .long (lN b)), (4, .int (nI (0)))]) (st' := [.long (lN (Nat.gcd a b)), .long (lN a)]) (w' := []) rfl rfl rfl ?_
  refine ev_ldiv dX7_partOf_15 (by exact lN_ne (gcd_big h0 hb) (gcd_ne h0)) ?_
  refine ev_topL (y := lN (a / Nat.gcd a b)) (by exact lN_div ha (gcd_big h0 hb)) ?_
  exact ev_lret dX7_partOf_16 rfl (Nat.le_of_ble_eq_true rfl) (Nat.le_refl _) (Nat.le_refl _) ⟨(by rw [← fr_m h0 (by decide)]; rfl), rfl⟩
theorem bX7_partOf_9_12 {l : Launch} {E : XE} : Snd l E mX7_partOf 9 12 (xs [x_lload 2, x_lload 0, x_lload 2]) := Snd.cons (snd_lload_n (i := 2) dX7_partOf_9 rfl) (Snd.cons (snd_lload_n (i := 0) dX7_partOf_10 rfl) (Snd.cons (snd_lload_n (i := 2) dX7_partOf_11 rfl) Snd.nil))
set_option maxHeartbeats 4000000 in
set_option maxRecDepth 100000 in
theorem m_X7_partOf_1 {l : Launch} {E : XE} (a b : Nat) (ha : a < big) (hb : b < big) (h0 : b ≠ 0) : MetE l E mX7_partOf (1) 0 0 [.long (lN a), .long (lN b), .int (nI (1))] ([]) (fun r w' => r = some (.long (lN (frN a b 1))) ∧ w' = []) := by
  refine MetE.of (by decide +kernel) (Nat.le_of_ble_eq_true rfl) ?_
  refine ev_eq (lv' := [(0, .long (lN a)), (2, .long (lN b)), (4, .int (nI (1)))]) (st' := []) (w' := []) rfl rfl rfl ?_
  refine ev_b bX7_partOf_0_2 (lv' := [(0, .long (lN a)), (2, .long (lN b)), (4, .int (nI (1)))]) (st' := [.int (nI (1))]) (w2 := []) rfl ?_
  refine ev_if_ne_n (tgt := 9) (by decide) dX7_partOf_2 (by decide) (fun h2 => ?_) (fun h2 => (by exfalso; omega))
  refine ev_b bX7_partOf_9_12 (lv' := [(0, .long (lN a)), (2, .long (lN b)), (4, .int (nI (1)))]) (st' := [.long (lN b), .long (lN a), .long (lN b)]) (w2 := []) rfl ?_
  refine ev_callS (Yc := mX7_common) [] dX7_partOf_12 tw_1290 kX7_common (m_X7_common a b ha hb) rfl (st := [.long (lN b)]) rfl (by decide) rfl (by decide) (Nat.le_of_ble_eq_true rfl) (Nat.le_refl _) (Nat.le_refl _) (fun r w' h => by obtain ⟨-, rfl⟩ := h; exact Nat.le_of_ble_eq_true rfl) ?_
  rintro _ _ ⟨rfl, rfl⟩
  refine ev_eq (lv' := [(0, .long (lN a)), (2, .long (lN b)), (4, .int (nI (1)))]) (st' := [.long (lN (Nat.gcd a b)), .long (lN b)]) (w' := []) rfl rfl rfl ?_
  refine ev_ldiv dX7_partOf_15 (by exact lN_ne (gcd_big h0 hb) (gcd_ne h0)) ?_
  refine ev_topL (y := lN (b / Nat.gcd a b)) (by exact lN_div hb (gcd_big h0 hb)) ?_
  exact ev_lret dX7_partOf_16 rfl (Nat.le_of_ble_eq_true rfl) (Nat.le_refl _) (Nat.le_refl _) ⟨(by rw [← fr_m h0 (by decide)]; rfl), rfl⟩
theorem bX7_mean_0_3 {l : Launch} {E : XE} : Snd l E mX7_mean 0 3 (xs [x_iload 1, x_push (.int (nI 0)), x_push (.int (nI 2))]) := Snd.cons (snd_iload_n (i := 1) dX7_mean_0 rfl) (Snd.cons (snd_iconst (v := nI 0) dX7_mean_1 (by decide)) (Snd.cons (snd_iconst (v := nI 2) dX7_mean_2 (by decide)) Snd.nil))
theorem bX7_mean_18_24 {l : Launch} {E : XE} : Snd l E mX7_mean 18 24 (xs [x_push (.long (4000000000000000000)), x_aload 0, x_push (.int (-2))]) := Snd.cons (snd_ldc2 (v := 4000000000000000000) dX7_mean_18 tw_1286) (Snd.cons (snd_aload_n (i := 0) dX7_mean_21 rfl) (Snd.cons (snd_bipush (v := -2) dX7_mean_22 (by decide)) Snd.nil))
theorem bX7_mean_27_29 {l : Launch} {E : XE} : Snd l E mX7_mean 27 29 (xs [x_i2l, x_l2 (fun x y => x - y)]) := Snd.cons (snd_i2l dX7_mean_27) (Snd.cons (snd_lsub dX7_mean_28) Snd.nil)
set_option maxHeartbeats 4000000 in
set_option maxRecDepth 100000 in
theorem q_mean_2a {l : Launch} {E : XE} (S : SaleN) (X : ModN) (K : Option (Nat → Nat)) (z1 z2 : Int) (hS : SaleOK S) (hM : MOK S X) (rz1 : -2147483648 ≤ z1 ∧ z1 < 2147483648) (rz2 : -2147483648 ≤ z2 ∧ z2 < 2147483648) (h : ¬ (0 ≤ z1 ∧ z1 < 3)) : MetE l E mX7_mean (1) 0 0 [.ref 0, .int (zI (z1)), .int (zI (z2))] (modW 0 S X K) (MP S K (X.lt) (X.ty) (X.rr) (X.rn) ((up X.rf 2 (X.rf 2 + 1))) (some (.long (4000000000000000000 - (Int32.toInt64 (-2)))))) := by
  refine MetE.of (by decide +kernel) (Nat.le_of_ble_eq_true rfl) ?_
  have hca := hS.1
  have hpw := pow_ca hS
  have hac := ac_lt hS
  have hshl := shl_le hS
  
  refine ev_eq (lv' := [(0, .ref 0), (1, .int (zI (z1))), (2, .int (zI (z2)))]) (st' := []) (w' := modW 0 S X K) rfl rfl rfl ?_
  refine ev_b bX7_mean_0_3 (lv' := [(0, .ref 0), (1, .int (zI (z1))), (2, .int (zI (z2)))]) (st' := [.int (nI (2)), .int (nI (0)), .int (zI (z1))]) (w2 := modW 0 S X K) rfl ?_
  refine ev_callS (Yc := mX7_isIn) [] dX7_mean_3 tw_1036 kX7_isIn (m_X7_isIn_z z1 0 2 rz1 (by decide) (by decide)) rfl (st := []) rfl (by decide) rfl (by decide) (Nat.le_of_ble_eq_true rfl) (Nat.le_refl _) (Nat.le_refl _) (fun r w' h => by obtain ⟨-, rfl⟩ := h; exact Nat.le_of_ble_eq_true rfl) ?_
  rintro _ _ ⟨rfl, rfl⟩
  refine ev_eq (lv' := [(0, .ref 0), (1, .int (zI (z1))), (2, .int (zI (z2)))]) (st' := [.int (nI (b01 (((0 : Nat) : Int) ≤ z1 ∧ z1 ≤ ((2 : Nat) : Int))))]) (w' := modW 0 S X K) rfl rfl rfl ?_
  refine ev_ifeq_b (tgt := 18) dX7_mean_6 (by decide) (fun h6 => ?_) (fun h6 => (by exfalso; omega))
  refine ev_b bX7_mean_18_24 (lv' := [(0, .ref 0), (1, .int (zI (z1))), (2, .int (zI (z2)))]) (st' := [.int (-2), .ref 0, .long (4000000000000000000)]) (w2 := modW 0 S X K) rfl ?_
  refine ev_callM (Yc := mX7_refuses) (st := [.long (4000000000000000000)]) dX7_mean_24 tw_1012 kX7_refuses (m_X7_refuses_2 S X K) rfl rfl rfl rfl (by decide) (Nat.le_of_ble_eq_true rfl) (Nat.le_refl _) (Nat.le_refl _) (fun r w' h => by obtain ⟨-, rfl⟩ := h; exact mod_eq) ?_
  rintro _ _ ⟨rfl, rfl⟩
  refine ev_eq (lv' := [(0, .ref 0), (1, .int (zI (z1))), (2, .int (zI (z2)))]) (st' := [.int (-2), .long (4000000000000000000)]) (w' := modW 0 S (((up X.rf 2 (X.rf 2 + 1)), X.wo, X.ta, X.ow, X.sl, X.sh, X.lt, X.ty, X.pl, X.nu, X.od, X.tt, X.oo, X.on, X.wn, X.pd, X.li, X.rr, X.rn, X.dr) : ModN) K) rfl rfl rfl ?_
  refine ev_b bX7_mean_27_29 (lv' := [(0, .ref 0), (1, .int (zI (z1))), (2, .int (zI (z2)))]) (st' := [.long (4000000000000000000 - (Int32.toInt64 ((-2))))]) (w2 := modW 0 S (((up X.rf 2 (X.rf 2 + 1)), X.wo, X.ta, X.ow, X.sl, X.sh, X.lt, X.ty, X.pl, X.nu, X.od, X.tt, X.oo, X.on, X.wn, X.pd, X.li, X.rr, X.rn, X.dr) : ModN) K) rfl ?_
  exact ev_lret dX7_mean_29 rfl mod_le (Nat.le_refl _) (Nat.le_refl _) ⟨rfl, _, rfl, hM, rfl, rfl, rfl, rfl, rfl⟩
theorem bX7_mean_9_12 {l : Launch} {E : XE} : Snd l E mX7_mean 9 12 (xs [x_iload 2, x_push (.int (nI 0)), x_push (.int (nI 1))]) := Snd.cons (snd_iload_n (i := 2) dX7_mean_9 rfl) (Snd.cons (snd_iconst (v := nI 0) dX7_mean_10 (by decide)) (Snd.cons (snd_iconst (v := nI 1) dX7_mean_11 (by decide)) Snd.nil))
set_option maxHeartbeats 4000000 in
set_option maxRecDepth 100000 in
theorem q_mean_2b {l : Launch} {E : XE} (S : SaleN) (X : ModN) (K : Option (Nat → Nat)) (z1 z2 : Int) (hS : SaleOK S) (hM : MOK S X) (rz1 : -2147483648 ≤ z1 ∧ z1 < 2147483648) (rz2 : -2147483648 ≤ z2 ∧ z2 < 2147483648) (h : 0 ≤ z1 ∧ z1 < 3) (h2 : ¬ (z2 = 0 ∨ z2 = 1)) : MetE l E mX7_mean (1) 0 0 [.ref 0, .int (zI (z1)), .int (zI (z2))] (modW 0 S X K) (MP S K (X.lt) (X.ty) (X.rr) (X.rn) ((up X.rf 2 (X.rf 2 + 1))) (some (.long (4000000000000000000 - (Int32.toInt64 (-2)))))) := by
  refine MetE.of (by decide +kernel) (Nat.le_of_ble_eq_true rfl) ?_
  have hca := hS.1
  have hpw := pow_ca hS
  have hac := ac_lt hS
  have hshl := shl_le hS
  
  refine ev_eq (lv' := [(0, .ref 0), (1, .int (zI (z1))), (2, .int (zI (z2)))]) (st' := []) (w' := modW 0 S X K) rfl rfl rfl ?_
  refine ev_b bX7_mean_0_3 (lv' := [(0, .ref 0), (1, .int (zI (z1))), (2, .int (zI (z2)))]) (st' := [.int (nI (2)), .int (nI (0)), .int (zI (z1))]) (w2 := modW 0 S X K) rfl ?_
  refine ev_callS (Yc := mX7_isIn) [] dX7_mean_3 tw_1036 kX7_isIn (m_X7_isIn_z z1 0 2 rz1 (by decide) (by decide)) rfl (st := []) rfl (by decide) rfl (by decide) (Nat.le_of_ble_eq_true rfl) (Nat.le_refl _) (Nat.le_refl _) (fun r w' h => by obtain ⟨-, rfl⟩ := h; exact Nat.le_of_ble_eq_true rfl) ?_
  rintro _ _ ⟨rfl, rfl⟩
  refine ev_eq (lv' := [(0, .ref 0), (1, .int (zI (z1))), (2, .int (zI (z2)))]) (st' := [.int (nI (b01 (((0 : Nat) : Int) ≤ z1 ∧ z1 ≤ ((2 : Nat) : Int))))]) (w' := modW 0 S X K) rfl rfl rfl ?_
  refine ev_ifeq_b (tgt := 18) dX7_mean_6 (by decide) (fun h6 => (by exfalso; omega)) (fun h6 => ?_)
  refine ev_b bX7_mean_9_12 (lv' := [(0, .ref 0), (1, .int (zI (z1))), (2, .int (zI (z2)))]) (st' := [.int (nI (1)), .int (nI (0)), .int (zI (z2))]) (w2 := modW 0 S X K) rfl ?_
  refine ev_callS (Yc := mX7_isIn) [] dX7_mean_12 tw_1036 kX7_isIn (m_X7_isIn_z z2 0 1 rz2 (by decide) (by decide)) rfl (st := []) rfl (by decide) rfl (by decide) (Nat.le_of_ble_eq_true rfl) (Nat.le_refl _) (Nat.le_refl _) (fun r w' h => by obtain ⟨-, rfl⟩ := h; exact Nat.le_of_ble_eq_true rfl) ?_
  rintro _ _ ⟨rfl, rfl⟩
  refine ev_eq (lv' := [(0, .ref 0), (1, .int (zI (z1))), (2, .int (zI (z2)))]) (st' := [.int (nI (b01 (((0 : Nat) : Int) ≤ z2 ∧ z2 ≤ ((1 : Nat) : Int))))]) (w' := modW 0 S X K) rfl rfl rfl ?_
  refine ev_ifne_b (tgt := 30) dX7_mean_15 (by decide) (fun h15 => (by exfalso; omega)) (fun h15 => ?_)
  refine ev_b bX7_mean_18_24 (lv' := [(0, .ref 0), (1, .int (zI (z1))), (2, .int (zI (z2)))]) (st' := [.int (-2), .ref 0, .long (4000000000000000000)]) (w2 := modW 0 S X K) rfl ?_
  refine ev_callM (Yc := mX7_refuses) (st := [.long (4000000000000000000)]) dX7_mean_24 tw_1012 kX7_refuses (m_X7_refuses_2 S X K) rfl rfl rfl rfl (by decide) (Nat.le_of_ble_eq_true rfl) (Nat.le_refl _) (Nat.le_refl _) (fun r w' h => by obtain ⟨-, rfl⟩ := h; exact mod_eq) ?_
  rintro _ _ ⟨rfl, rfl⟩
  refine ev_eq (lv' := [(0, .ref 0), (1, .int (zI (z1))), (2, .int (zI (z2)))]) (st' := [.int (-2), .long (4000000000000000000)]) (w' := modW 0 S (((up X.rf 2 (X.rf 2 + 1)), X.wo, X.ta, X.ow, X.sl, X.sh, X.lt, X.ty, X.pl, X.nu, X.od, X.tt, X.oo, X.on, X.wn, X.pd, X.li, X.rr, X.rn, X.dr) : ModN) K) rfl rfl rfl ?_
  refine ev_b bX7_mean_27_29 (lv' := [(0, .ref 0), (1, .int (zI (z1))), (2, .int (zI (z2)))]) (st' := [.long (4000000000000000000 - (Int32.toInt64 ((-2))))]) (w2 := modW 0 S (((up X.rf 2 (X.rf 2 + 1)), X.wo, X.ta, X.ow, X.sl, X.sh, X.lt, X.ty, X.pl, X.nu, X.od, X.tt, X.oo, X.on, X.wn, X.pd, X.li, X.rr, X.rn, X.dr) : ModN) K) rfl ?_
  exact ev_lret dX7_mean_29 rfl mod_le (Nat.le_refl _) (Nat.le_refl _) ⟨rfl, _, rfl, hM, rfl, rfl, rfl, rfl, rfl⟩
theorem bX7_missing_0_2 {l : Launch} {E : XE} : Snd l E mX7_missing 0 2 (xs [x_aload 0, x_iload 1]) := Snd.cons (snd_aload_n (i := 0) dX7_missing_0 rfl) (Snd.cons (snd_iload_n (i := 1) dX7_missing_1 rfl) Snd.nil)
theorem bX7_missing_8_13 {l : Launch} {E : XE} : Snd l E mX7_missing 8 13 (xs [x_push (.long (4000000000000000000)), x_aload 0, x_push (.int (-1))]) := Snd.cons (snd_ldc2 (v := 4000000000000000000) dX7_missing_8 tw_1286) (Snd.cons (snd_aload_n (i := 0) dX7_missing_11 rfl) (Snd.cons (snd_iconst (v := -1) dX7_missing_12 (by decide)) Snd.nil))
theorem bX7_missing_16_18 {l : Launch} {E : XE} : Snd l E mX7_missing 16 18 (xs [x_i2l, x_l2 (fun x y => x - y)]) := Snd.cons (snd_i2l dX7_missing_16) (Snd.cons (snd_lsub dX7_missing_17) Snd.nil)
set_option maxHeartbeats 4000000 in
set_option maxRecDepth 100000 in
theorem q_missing_1 {l : Launch} {E : XE} (S : SaleN) (X : ModN) (K : Option (Nat → Nat)) (z1 z2 z3 : Int) (hS : SaleOK S) (hM : MOK S X) (rz1 : -2147483648 ≤ z1 ∧ z1 < 2147483648) (rz2 : -2147483648 ≤ z2 ∧ z2 < 2147483648) (rz3 : -2147483648 ≤ z3 ∧ z3 < 2147483648) (h : ¬ (0 ≤ z1 ∧ z1 < S.ca)) : MetE l E mX7_missing (2) 0 0 [.ref 0, .int (zI (z1)), .int (zI (z2)), .int (zI (z3))] (modW 0 S X K) (MP S K (X.lt) (X.ty) (X.rr) (X.rn) ((up X.rf 1 (X.rf 1 + 1))) (some (.long (4000000000000000000 - (Int32.toInt64 (-1)))))) := by
  refine MetE.of (by decide +kernel) (Nat.le_of_ble_eq_true rfl) ?_
  have hca := hS.1
  have hpw := pow_ca hS
  have hac := ac_lt hS
  have hshl := shl_le hS
  
  refine ev_eq (lv' := [(0, .ref 0), (1, .int (zI (z1))), (2, .int (zI (z2))), (3, .int (zI (z3)))]) (st' := []) (w' := modW 0 S X K) rfl rfl rfl ?_
  refine ev_b bX7_missing_0_2 (lv' := [(0, .ref 0), (1, .int (zI (z1))), (2, .int (zI (z2))), (3, .int (zI (z3)))]) (st' := [.int (zI (z1)), .ref 0]) (w2 := modW 0 S X K) rfl ?_
  refine ev_callM (Yc := mX7_isBid) (st := []) dX7_missing_2 tw_1084 kX7_isBid (m_X7_isBid_z S X K z1 hca rz1) rfl rfl rfl rfl (by decide) (Nat.le_of_ble_eq_true rfl) (Nat.le_refl _) (Nat.le_refl _) (fun r w' h => by obtain ⟨-, rfl⟩ := h; exact mod_eq) ?_
  rintro _ _ ⟨rfl, rfl⟩
  refine ev_eq (lv' := [(0, .ref 0), (1, .int (zI (z1))), (2, .int (zI (z2))), (3, .int (zI (z3)))]) (st' := [.int (nI (b01 (0 ≤ z1 ∧ z1 < S.ca)))]) (w' := modW 0 S X K) rfl rfl rfl ?_
  refine ev_ifne_b (tgt := 19) dX7_missing_5 (by decide) (fun h5 => (by exfalso; omega)) (fun h5 => ?_)
  refine ev_b bX7_missing_8_13 (lv' := [(0, .ref 0), (1, .int (zI (z1))), (2, .int (zI (z2))), (3, .int (zI (z3)))]) (st' := [.int (-1), .ref 0, .long (4000000000000000000)]) (w2 := modW 0 S X K) rfl ?_
  refine ev_callM (Yc := mX7_refuses) (st := [.long (4000000000000000000)]) dX7_missing_13 tw_1012 kX7_refuses (m_X7_refuses_1 S X K) rfl rfl rfl rfl (by decide) (Nat.le_of_ble_eq_true rfl) (Nat.le_refl _) (Nat.le_refl _) (fun r w' h => by obtain ⟨-, rfl⟩ := h; exact mod_eq) ?_
  rintro _ _ ⟨rfl, rfl⟩
  refine ev_eq (lv' := [(0, .ref 0), (1, .int (zI (z1))), (2, .int (zI (z2))), (3, .int (zI (z3)))]) (st' := [.int (-1), .long (4000000000000000000)]) (w' := modW 0 S (((up X.rf 1 (X.rf 1 + 1)), X.wo, X.ta, X.ow, X.sl, X.sh, X.lt, X.ty, X.pl, X.nu, X.od, X.tt, X.oo, X.on, X.wn, X.pd, X.li, X.rr, X.rn, X.dr) : ModN) K) rfl rfl rfl ?_
  refine ev_b bX7_missing_16_18 (lv' := [(0, .ref 0), (1, .int (zI (z1))), (2, .int (zI (z2))), (3, .int (zI (z3)))]) (st' := [.long (4000000000000000000 - (Int32.toInt64 ((-1))))]) (w2 := modW 0 S (((up X.rf 1 (X.rf 1 + 1)), X.wo, X.ta, X.ow, X.sl, X.sh, X.lt, X.ty, X.pl, X.nu, X.od, X.tt, X.oo, X.on, X.wn, X.pd, X.li, X.rr, X.rn, X.dr) : ModN) K) rfl ?_
  exact ev_lret dX7_missing_18 rfl mod_le (Nat.le_refl _) (Nat.le_refl _) ⟨rfl, _, rfl, hM, rfl, rfl, rfl, rfl, rfl⟩
theorem bX7_missing_19_21 {l : Launch} {E : XE} : Snd l E mX7_missing 19 21 (xs [x_iload 2, x_push (.int (nI 2))]) := Snd.cons (snd_iload_n (i := 2) dX7_missing_19 rfl) (Snd.cons (snd_iconst (v := nI 2) dX7_missing_20 (by decide)) Snd.nil)
theorem bX7_missing_24_30 {l : Launch} {E : XE} : Snd l E mX7_missing 24 30 (xs [x_push (.long (4000000000000000000)), x_aload 0, x_push (.int (-4))]) := Snd.cons (snd_ldc2 (v := 4000000000000000000) dX7_missing_24 tw_1286) (Snd.cons (snd_aload_n (i := 0) dX7_missing_27 rfl) (Snd.cons (snd_bipush (v := -4) dX7_missing_28 (by decide)) Snd.nil))
theorem bX7_missing_33_35 {l : Launch} {E : XE} : Snd l E mX7_missing 33 35 (xs [x_i2l, x_l2 (fun x y => x - y)]) := Snd.cons (snd_i2l dX7_missing_33) (Snd.cons (snd_lsub dX7_missing_34) Snd.nil)
set_option maxHeartbeats 4000000 in
set_option maxRecDepth 100000 in
theorem q_missing_4 {l : Launch} {E : XE} (S : SaleN) (X : ModN) (K : Option (Nat → Nat)) (z1 z2 z3 : Int) (hS : SaleOK S) (hM : MOK S X) (rz1 : -2147483648 ≤ z1 ∧ z1 < 2147483648) (rz2 : -2147483648 ≤ z2 ∧ z2 < 2147483648) (rz3 : -2147483648 ≤ z3 ∧ z3 < 2147483648) (h : 0 ≤ z1 ∧ z1 < S.ca) (h2 : z2 < 2) : MetE l E mX7_missing (2) 0 0 [.ref 0, .int (zI (z1)), .int (zI (z2)), .int (zI (z3))] (modW 0 S X K) (MP S K (X.lt) (X.ty) (X.rr) (X.rn) ((up X.rf 4 (X.rf 4 + 1))) (some (.long (4000000000000000000 - (Int32.toInt64 (-4)))))) := by
  refine MetE.of (by decide +kernel) (Nat.le_of_ble_eq_true rfl) ?_
  have hca := hS.1
  have hpw := pow_ca hS
  have hac := ac_lt hS
  have hshl := shl_le hS
  
  refine ev_eq (lv' := [(0, .ref 0), (1, .int (zI (z1))), (2, .int (zI (z2))), (3, .int (zI (z3)))]) (st' := []) (w' := modW 0 S X K) rfl rfl rfl ?_
  refine ev_b bX7_missing_0_2 (lv' := [(0, .ref 0), (1, .int (zI (z1))), (2, .int (zI (z2))), (3, .int (zI (z3)))]) (st' := [.int (zI (z1)), .ref 0]) (w2 := modW 0 S X K) rfl ?_
  refine ev_callM (Yc := mX7_isBid) (st := []) dX7_missing_2 tw_1084 kX7_isBid (m_X7_isBid_z S X K z1 hca rz1) rfl rfl rfl rfl (by decide) (Nat.le_of_ble_eq_true rfl) (Nat.le_refl _) (Nat.le_refl _) (fun r w' h => by obtain ⟨-, rfl⟩ := h; exact mod_eq) ?_
  rintro _ _ ⟨rfl, rfl⟩
  refine ev_eq (lv' := [(0, .ref 0), (1, .int (zI (z1))), (2, .int (zI (z2))), (3, .int (zI (z3)))]) (st' := [.int (nI (b01 (0 ≤ z1 ∧ z1 < S.ca)))]) (w' := modW 0 S X K) rfl rfl rfl ?_
  refine ev_ifne_b (tgt := 19) dX7_missing_5 (by decide) (fun h5 => ?_) (fun h5 => (by exfalso; omega))
  refine ev_b bX7_missing_19_21 (lv' := [(0, .ref 0), (1, .int (zI (z1))), (2, .int (zI (z2))), (3, .int (zI (z3)))]) (st' := [.int (nI (2)), .int (zI (z2))]) (w2 := modW 0 S X K) rfl ?_
  refine ev_top (y := zI (((2 : Nat) : Int))) (zI_nat _).symm ?_
  refine ev_icmp_ge_z (tgt := 36) (by constructor <;> omega) (by constructor <;> omega) dX7_missing_21 (by decide) (fun h21 => (by exfalso; omega)) (fun h21 => ?_)
  refine ev_b bX7_missing_24_30 (lv' := [(0, .ref 0), (1, .int (zI (z1))), (2, .int (zI (z2))), (3, .int (zI (z3)))]) (st' := [.int (-4), .ref 0, .long (4000000000000000000)]) (w2 := modW 0 S X K) rfl ?_
  refine ev_callM (Yc := mX7_refuses) (st := [.long (4000000000000000000)]) dX7_missing_30 tw_1012 kX7_refuses (m_X7_refuses_4 S X K) rfl rfl rfl rfl (by decide) (Nat.le_of_ble_eq_true rfl) (Nat.le_refl _) (Nat.le_refl _) (fun r w' h => by obtain ⟨-, rfl⟩ := h; exact mod_eq) ?_
  rintro _ _ ⟨rfl, rfl⟩
  refine ev_eq (lv' := [(0, .ref 0), (1, .int (zI (z1))), (2, .int (zI (z2))), (3, .int (zI (z3)))]) (st' := [.int (-4), .long (4000000000000000000)]) (w' := modW 0 S (((up X.rf 4 (X.rf 4 + 1)), X.wo, X.ta, X.ow, X.sl, X.sh, X.lt, X.ty, X.pl, X.nu, X.od, X.tt, X.oo, X.on, X.wn, X.pd, X.li, X.rr, X.rn, X.dr) : ModN) K) rfl rfl rfl ?_
  refine ev_b bX7_missing_33_35 (lv' := [(0, .ref 0), (1, .int (zI (z1))), (2, .int (zI (z2))), (3, .int (zI (z3)))]) (st' := [.long (4000000000000000000 - (Int32.toInt64 ((-4))))]) (w2 := modW 0 S (((up X.rf 4 (X.rf 4 + 1)), X.wo, X.ta, X.ow, X.sl, X.sh, X.lt, X.ty, X.pl, X.nu, X.od, X.tt, X.oo, X.on, X.wn, X.pd, X.li, X.rr, X.rn, X.dr) : ModN) K) rfl ?_
  exact ev_lret dX7_missing_35 rfl mod_le (Nat.le_refl _) (Nat.le_refl _) ⟨rfl, _, rfl, hM, rfl, rfl, rfl, rfl, rfl⟩
theorem bX7_missing_36_39 {l : Launch} {E : XE} : Snd l E mX7_missing 36 39 (xs [x_iload 2, x_push (.int (nI 20))]) := Snd.cons (snd_iload_n (i := 2) dX7_missing_36 rfl) (Snd.cons (snd_bipush (v := nI 20) dX7_missing_37 (by decide)) Snd.nil)
theorem bX7_missing_42_48 {l : Launch} {E : XE} : Snd l E mX7_missing 42 48 (xs [x_push (.long (4000000000000000000)), x_aload 0, x_push (.int (-6))]) := Snd.cons (snd_ldc2 (v := 4000000000000000000) dX7_missing_42 tw_1286) (Snd.cons (snd_aload_n (i := 0) dX7_missing_45 rfl) (Snd.cons (snd_bipush (v := -6) dX7_missing_46 (by decide)) Snd.nil))
theorem bX7_missing_51_53 {l : Launch} {E : XE} : Snd l E mX7_missing 51 53 (xs [x_i2l, x_l2 (fun x y => x - y)]) := Snd.cons (snd_i2l dX7_missing_51) (Snd.cons (snd_lsub dX7_missing_52) Snd.nil)
set_option maxHeartbeats 4000000 in
set_option maxRecDepth 100000 in
theorem q_missing_6 {l : Launch} {E : XE} (S : SaleN) (X : ModN) (K : Option (Nat → Nat)) (z1 z2 z3 : Int) (hS : SaleOK S) (hM : MOK S X) (rz1 : -2147483648 ≤ z1 ∧ z1 < 2147483648) (rz2 : -2147483648 ≤ z2 ∧ z2 < 2147483648) (rz3 : -2147483648 ≤ z3 ∧ z3 < 2147483648) (h : 0 ≤ z1 ∧ z1 < S.ca) (h2 : 20 < z2) : MetE l E mX7_missing (2) 0 0 [.ref 0, .int (zI (z1)), .int (zI (z2)), .int (zI (z3))] (modW 0 S X K) (MP S K (X.lt) (X.ty) (X.rr) (X.rn) ((up X.rf 6 (X.rf 6 + 1))) (some (.long (4000000000000000000 - (Int32.toInt64 (-6)))))) := by
  refine MetE.of (by decide +kernel) (Nat.le_of_ble_eq_true rfl) ?_
  have hca := hS.1
  have hpw := pow_ca hS
  have hac := ac_lt hS
  have hshl := shl_le hS
  
  refine ev_eq (lv' := [(0, .ref 0), (1, .int (zI (z1))), (2, .int (zI (z2))), (3, .int (zI (z3)))]) (st' := []) (w' := modW 0 S X K) rfl rfl rfl ?_
  refine ev_b bX7_missing_0_2 (lv' := [(0, .ref 0), (1, .int (zI (z1))), (2, .int (zI (z2))), (3, .int (zI (z3)))]) (st' := [.int (zI (z1)), .ref 0]) (w2 := modW 0 S X K) rfl ?_
  refine ev_callM (Yc := mX7_isBid) (st := []) dX7_missing_2 tw_1084 kX7_isBid (m_X7_isBid_z S X K z1 hca rz1) rfl rfl rfl rfl (by decide) (Nat.le_of_ble_eq_true rfl) (Nat.le_refl _) (Nat.le_refl _) (fun r w' h => by obtain ⟨-, rfl⟩ := h; exact mod_eq) ?_
  rintro _ _ ⟨rfl, rfl⟩
  refine ev_eq (lv' := [(0, .ref 0), (1, .int (zI (z1))), (2, .int (zI (z2))), (3, .int (zI (z3)))]) (st' := [.int (nI (b01 (0 ≤ z1 ∧ z1 < S.ca)))]) (w' := modW 0 S X K) rfl rfl rfl ?_
  refine ev_ifne_b (tgt := 19) dX7_missing_5 (by decide) (fun h5 => ?_) (fun h5 => (by exfalso; omega))
  refine ev_b bX7_missing_19_21 (lv' := [(0, .ref 0), (1, .int (zI (z1))), (2, .int (zI (z2))), (3, .int (zI (z3)))]) (st' := [.int (nI (2)), .int (zI (z2))]) (w2 := modW 0 S X K) rfl ?_
  refine ev_top (y := zI (((2 : Nat) : Int))) (zI_nat _).symm ?_
  refine ev_icmp_ge_z (tgt := 36) (by constructor <;> omega) (by constructor <;> omega) dX7_missing_21 (by decide) (fun h21 => ?_) (fun h21 => (by exfalso; omega))
  refine ev_b bX7_missing_36_39 (lv' := [(0, .ref 0), (1, .int (zI (z1))), (2, .int (zI (z2))), (3, .int (zI (z3)))]) (st' := [.int (nI (20)), .int (zI (z2))]) (w2 := modW 0 S X K) rfl ?_
  refine ev_top (y := zI (((20 : Nat) : Int))) (zI_nat _).symm ?_
  refine ev_icmp_le_z (tgt := 54) (by constructor <;> omega) (by constructor <;> omega) dX7_missing_39 (by decide) (fun h39 => (by exfalso; omega)) (fun h39 => ?_)
  refine ev_b bX7_missing_42_48 (lv' := [(0, .ref 0), (1, .int (zI (z1))), (2, .int (zI (z2))), (3, .int (zI (z3)))]) (st' := [.int (-6), .ref 0, .long (4000000000000000000)]) (w2 := modW 0 S X K) rfl ?_
  refine ev_callM (Yc := mX7_refuses) (st := [.long (4000000000000000000)]) dX7_missing_48 tw_1012 kX7_refuses (m_X7_refuses_6 S X K) rfl rfl rfl rfl (by decide) (Nat.le_of_ble_eq_true rfl) (Nat.le_refl _) (Nat.le_refl _) (fun r w' h => by obtain ⟨-, rfl⟩ := h; exact mod_eq) ?_
  rintro _ _ ⟨rfl, rfl⟩
  refine ev_eq (lv' := [(0, .ref 0), (1, .int (zI (z1))), (2, .int (zI (z2))), (3, .int (zI (z3)))]) (st' := [.int (-6), .long (4000000000000000000)]) (w' := modW 0 S (((up X.rf 6 (X.rf 6 + 1)), X.wo, X.ta, X.ow, X.sl, X.sh, X.lt, X.ty, X.pl, X.nu, X.od, X.tt, X.oo, X.on, X.wn, X.pd, X.li, X.rr, X.rn, X.dr) : ModN) K) rfl rfl rfl ?_
  refine ev_b bX7_missing_51_53 (lv' := [(0, .ref 0), (1, .int (zI (z1))), (2, .int (zI (z2))), (3, .int (zI (z3)))]) (st' := [.long (4000000000000000000 - (Int32.toInt64 ((-6))))]) (w2 := modW 0 S (((up X.rf 6 (X.rf 6 + 1)), X.wo, X.ta, X.ow, X.sl, X.sh, X.lt, X.ty, X.pl, X.nu, X.od, X.tt, X.oo, X.on, X.wn, X.pd, X.li, X.rr, X.rn, X.dr) : ModN) K) rfl ?_
  exact ev_lret dX7_missing_53 rfl mod_le (Nat.le_refl _) (Nat.le_refl _) ⟨rfl, _, rfl, hM, rfl, rfl, rfl, rfl, rfl⟩
theorem bX7_missing_54_57 {l : Launch} {E : XE} : Snd l E mX7_missing 54 57 (xs [x_iload 3, x_push (.int (nI 0)), x_push (.int (nI 1))]) := Snd.cons (snd_iload_n (i := 3) dX7_missing_54 rfl) (Snd.cons (snd_iconst (v := nI 0) dX7_missing_55 (by decide)) (Snd.cons (snd_iconst (v := nI 1) dX7_missing_56 (by decide)) Snd.nil))
theorem bX7_missing_63_69 {l : Launch} {E : XE} : Snd l E mX7_missing 63 69 (xs [x_push (.long (4000000000000000000)), x_aload 0, x_push (.int (-2))]) := Snd.cons (snd_ldc2 (v := 4000000000000000000) dX7_missing_63 tw_1286) (Snd.cons (snd_aload_n (i := 0) dX7_missing_66 rfl) (Snd.cons (snd_bipush (v := -2) dX7_missing_67 (by decide)) Snd.nil))
theorem bX7_missing_72_74 {l : Launch} {E : XE} : Snd l E mX7_missing 72 74 (xs [x_i2l, x_l2 (fun x y => x - y)]) := Snd.cons (snd_i2l dX7_missing_72) (Snd.cons (snd_lsub dX7_missing_73) Snd.nil)
set_option maxHeartbeats 4000000 in
set_option maxRecDepth 100000 in
theorem q_missing_2 {l : Launch} {E : XE} (S : SaleN) (X : ModN) (K : Option (Nat → Nat)) (z1 z2 z3 : Int) (hS : SaleOK S) (hM : MOK S X) (rz1 : -2147483648 ≤ z1 ∧ z1 < 2147483648) (rz2 : -2147483648 ≤ z2 ∧ z2 < 2147483648) (rz3 : -2147483648 ≤ z3 ∧ z3 < 2147483648) (h : 0 ≤ z1 ∧ z1 < S.ca) (h2 : 2 ≤ z2 ∧ z2 ≤ 20) (h3 : ¬ (z3 = 0 ∨ z3 = 1)) : MetE l E mX7_missing (2) 0 0 [.ref 0, .int (zI (z1)), .int (zI (z2)), .int (zI (z3))] (modW 0 S X K) (MP S K (X.lt) (X.ty) (X.rr) (X.rn) ((up X.rf 2 (X.rf 2 + 1))) (some (.long (4000000000000000000 - (Int32.toInt64 (-2)))))) := by
  refine MetE.of (by decide +kernel) (Nat.le_of_ble_eq_true rfl) ?_
  have hca := hS.1
  have hpw := pow_ca hS
  have hac := ac_lt hS
  have hshl := shl_le hS
  
  refine ev_eq (lv' := [(0, .ref 0), (1, .int (zI (z1))), (2, .int (zI (z2))), (3, .int (zI (z3)))]) (st' := []) (w' := modW 0 S X K) rfl rfl rfl ?_
  refine ev_b bX7_missing_0_2 (lv' := [(0, .ref 0), (1, .int (zI (z1))), (2, .int (zI (z2))), (3, .int (zI (z3)))]) (st' := [.int (zI (z1)), .ref 0]) (w2 := modW 0 S X K) rfl ?_
  refine ev_callM (Yc := mX7_isBid) (st := []) dX7_missing_2 tw_1084 kX7_isBid (m_X7_isBid_z S X K z1 hca rz1) rfl rfl rfl rfl (by decide) (Nat.le_of_ble_eq_true rfl) (Nat.le_refl _) (Nat.le_refl _) (fun r w' h => by obtain ⟨-, rfl⟩ := h; exact mod_eq) ?_
  rintro _ _ ⟨rfl, rfl⟩
  refine ev_eq (lv' := [(0, .ref 0), (1, .int (zI (z1))), (2, .int (zI (z2))), (3, .int (zI (z3)))]) (st' := [.int (nI (b01 (0 ≤ z1 ∧ z1 < S.ca)))]) (w' := modW 0 S X K) rfl rfl rfl ?_
  refine ev_ifne_b (tgt := 19) dX7_missing_5 (by decide) (fun h5 => ?_) (fun h5 => (by exfalso; omega))
  refine ev_b bX7_missing_19_21 (lv' := [(0, .ref 0), (1, .int (zI (z1))), (2, .int (zI (z2))), (3, .int (zI (z3)))]) (st' := [.int (nI (2)), .int (zI (z2))]) (w2 := modW 0 S X K) rfl ?_
  refine ev_top (y := zI (((2 : Nat) : Int))) (zI_nat _).symm ?_
  refine ev_icmp_ge_z (tgt := 36) (by constructor <;> omega) (by constructor <;> omega) dX7_missing_21 (by decide) (fun h21 => ?_) (fun h21 => (by exfalso; omega))
  refine ev_b bX7_missing_36_39 (lv' := [(0, .ref 0), (1, .int (zI (z1))), (2, .int (zI (z2))), (3, .int (zI (z3)))]) (st' := [.int (nI (20)), .int (zI (z2))]) (w2 := modW 0 S X K) rfl ?_
  refine ev_top (y := zI (((20 : Nat) : Int))) (zI_nat _).symm ?_
  refine ev_icmp_le_z (tgt := 54) (by constructor <;> omega) (by constructor <;> omega) dX7_missing_39 (by decide) (fun h39 => ?_) (fun h39 => (by exfalso; omega))
  refine ev_b bX7_missing_54_57 (lv' := [(0, .ref 0), (1, .int (zI (z1))), (2, .int (zI (z2))), (3, .int (zI (z3)))]) (st' := [.int (nI (1)), .int (nI (0)), .int (zI (z3))]) (w2 := modW 0 S X K) rfl ?_
  refine ev_callS (Yc := mX7_isIn) [] dX7_missing_57 tw_1036 kX7_isIn (m_X7_isIn_z z3 0 1 rz3 (by decide) (by decide)) rfl (st := []) rfl (by decide) rfl (by decide) (Nat.le_of_ble_eq_true rfl) (Nat.le_refl _) (Nat.le_refl _) (fun r w' h => by obtain ⟨-, rfl⟩ := h; exact Nat.le_of_ble_eq_true rfl) ?_
  rintro _ _ ⟨rfl, rfl⟩
  refine ev_eq (lv' := [(0, .ref 0), (1, .int (zI (z1))), (2, .int (zI (z2))), (3, .int (zI (z3)))]) (st' := [.int (nI (b01 (((0 : Nat) : Int) ≤ z3 ∧ z3 ≤ ((1 : Nat) : Int))))]) (w' := modW 0 S X K) rfl rfl rfl ?_
  refine ev_ifne_b (tgt := 75) dX7_missing_60 (by decide) (fun h60 => (by exfalso; omega)) (fun h60 => ?_)
  refine ev_b bX7_missing_63_69 (lv' := [(0, .ref 0), (1, .int (zI (z1))), (2, .int (zI (z2))), (3, .int (zI (z3)))]) (st' := [.int (-2), .ref 0, .long (4000000000000000000)]) (w2 := modW 0 S X K) rfl ?_
  refine ev_callM (Yc := mX7_refuses) (st := [.long (4000000000000000000)]) dX7_missing_69 tw_1012 kX7_refuses (m_X7_refuses_2 S X K) rfl rfl rfl rfl (by decide) (Nat.le_of_ble_eq_true rfl) (Nat.le_refl _) (Nat.le_refl _) (fun r w' h => by obtain ⟨-, rfl⟩ := h; exact mod_eq) ?_
  rintro _ _ ⟨rfl, rfl⟩
  refine ev_eq (lv' := [(0, .ref 0), (1, .int (zI (z1))), (2, .int (zI (z2))), (3, .int (zI (z3)))]) (st' := [.int (-2), .long (4000000000000000000)]) (w' := modW 0 S (((up X.rf 2 (X.rf 2 + 1)), X.wo, X.ta, X.ow, X.sl, X.sh, X.lt, X.ty, X.pl, X.nu, X.od, X.tt, X.oo, X.on, X.wn, X.pd, X.li, X.rr, X.rn, X.dr) : ModN) K) rfl rfl rfl ?_
  refine ev_b bX7_missing_72_74 (lv' := [(0, .ref 0), (1, .int (zI (z1))), (2, .int (zI (z2))), (3, .int (zI (z3)))]) (st' := [.long (4000000000000000000 - (Int32.toInt64 ((-2))))]) (w2 := modW 0 S (((up X.rf 2 (X.rf 2 + 1)), X.wo, X.ta, X.ow, X.sl, X.sh, X.lt, X.ty, X.pl, X.nu, X.od, X.tt, X.oo, X.on, X.wn, X.pd, X.li, X.rr, X.rn, X.dr) : ModN) K) rfl ?_
  exact ev_lret dX7_missing_74 rfl mod_le (Nat.le_refl _) (Nat.le_refl _) ⟨rfl, _, rfl, hM, rfl, rfl, rfl, rfl, rfl⟩
theorem bX7_mean_30_32 {l : Launch} {E : XE} : Snd l E mX7_mean 30 32 (xs [x_aload 0, x_iload 1]) := Snd.cons (snd_aload_n (i := 0) dX7_mean_30 rfl) (Snd.cons (snd_iload_n (i := 1) dX7_mean_31 rfl) Snd.nil)
theorem bX7_mean_35_40 {l : Launch} {E : XE} : Snd l E mX7_mean 35 40 (xs [x_push (.int (nI 0)), x_istore 3, x_push (.int (nI 0)), x_istore 4]) := Snd.cons (snd_iconst (v := nI 0) dX7_mean_35 (by decide)) (Snd.cons (snd_istore_n (i := 3) dX7_mean_36 rfl (by decide)) (Snd.cons (snd_iconst (v := nI 0) dX7_mean_37 (by decide)) (Snd.cons (snd_istore dX7_mean_38 (by decide)) Snd.nil)))
theorem bX7_mean_40_43 {l : Launch} {E : XE} : Snd l E mX7_mean 40 43 (xs [x_iload 4, x_push (.int (nI 5))]) := Snd.cons (snd_iload dX7_mean_40) (Snd.cons (snd_iconst (v := nI 5) dX7_mean_42 (by decide)) Snd.nil)
theorem bX7_mean_70_75 {l : Launch} {E : XE} : Snd l E mX7_mean 70 75 (xs [x_aload 0, x_aload 0, x_get 8 25]) := Snd.cons (snd_aload_n (i := 0) dX7_mean_70 rfl) (Snd.cons (snd_aload_n (i := 0) dX7_mean_71 rfl) (Snd.cons (snd_get (ci := 8) (k := 25) dX7_mean_72 rfl inX7 (by decide) tw_939) Snd.nil))
theorem bX7_mean_78_79 {l : Launch} {E : XE} : Snd l E mX7_mean 78 79 (xs [x_i2l]) := Snd.cons (snd_i2l dX7_mean_78) Snd.nil
theorem bX7_mean_79_81 {l : Launch} {E : XE} : Snd l E mX7_mean 79 81 (xs [x_push (.int (nI 1)), x_iload 3]) := Snd.cons (snd_iconst (v := nI 1) dX7_mean_79 (by decide)) (Snd.cons (snd_iload_n (i := 3) dX7_mean_80 rfl) Snd.nil)
theorem bX7_mean_84_85 {l : Launch} {E : XE} : Snd l E mX7_mean 84 85 (xs [x_i2l]) := Snd.cons (snd_i2l dX7_mean_84) Snd.nil
theorem bX7_mean_85_86 {l : Launch} {E : XE} : Snd l E mX7_mean 85 86 (xs [x_iload 2]) := Snd.cons (snd_iload_n (i := 2) dX7_mean_85 rfl) Snd.nil
theorem bX7_mean_46_53 {l : Launch} {E : XE} : Snd l E mX7_mean 46 53 (xs [x_iload 3, x_aload 0, x_get 8 24, x_iload 4]) := Snd.cons (snd_iload_n (i := 3) dX7_mean_46 rfl) (Snd.cons (snd_aload_n (i := 0) dX7_mean_47 rfl) (Snd.cons (snd_get (ci := 8) (k := 24) dX7_mean_48 rfl inX7 (by decide) tw_938) (Snd.cons (snd_iload dX7_mean_51) Snd.nil)))
theorem bX7_mean_61_62 {l : Launch} {E : XE} : Snd l E mX7_mean 61 62 (xs [x_push (.int (nI 0))]) := Snd.cons (snd_iconst (v := nI 0) dX7_mean_61 (by decide)) Snd.nil
theorem bX7_mean_63_64 {l : Launch} {E : XE} : Snd l E mX7_mean 63 64 (xs [x_istore 3]) := Snd.cons (snd_istore_n (i := 3) dX7_mean_63 rfl (by decide)) Snd.nil
theorem bX7_mean_67_40 {l : Launch} {E : XE} : Snd l E mX7_mean 67 40 (xs [x_id]) := Snd.cons (snd_goto (tgt := 40) dX7_mean_67 (by decide)) Snd.nil
theorem bX7_mean_57_62 {l : Launch} {E : XE} : Snd l E mX7_mean 57 62 (xs [x_push (.int (nI 1)), x_id]) := Snd.cons (snd_iconst (v := nI 1) dX7_mean_57 (by decide)) (Snd.cons (snd_goto (tgt := 62) dX7_mean_58 (by decide)) Snd.nil)
set_option maxHeartbeats 4000000 in
set_option maxRecDepth 100000 in
theorem q_mean_w0_0 {l : Launch} {E : XE} (S : SaleN) (X : ModN) (K : Option (Nat → Nat)) (n : Nat) (hS : SaleOK S) (hM : MOK S X) (hn : LiftsTo S n) (hnn : 0 ≤ totZ (wonZ S) 31 5 ∧ totZ (wonZ S) 31 5 ≤ 5000) (hz : cntTo (wonZ S) 5 = 0 → totZ (wonZ S) 31 5 = 0) : MetE l E mX7_mean (8) 0 0 [.ref 0, .int (nI (0)), .int (nI (0))] (modW 0 S X K) (MP S K (X.lt) (X.ty) (X.rr) (X.rn) (X.rf) (some (.long (lN (frN ((totZ (wonZ S) 31 5).toNat) (cntTo (wonZ S) 5) 0))))) := by
  refine MetE.of (by decide +kernel) (Nat.le_of_ble_eq_true rfl) ?_
  have hca := hS.1
  have hpw := pow_ca hS
  have hac := ac_lt hS
  have hshl := shl_le hS
  
  refine ev_eq (lv' := [(0, .ref 0), (1, .int (nI (0))), (2, .int (nI (0)))]) (st' := []) (w' := modW 0 S X K) rfl rfl rfl ?_
  refine ev_b bX7_mean_0_3 (lv' := [(0, .ref 0), (1, .int (nI (0))), (2, .int (nI (0)))]) (st' := [.int (nI (2)), .int (nI (0)), .int (nI (0))]) (w2 := modW 0 S X K) rfl ?_
  refine ev_callS (Yc := mX7_isIn) [] dX7_mean_3 tw_1036 kX7_isIn (m_X7_isIn_n 0 0 2 (by decide) (by decide) (by decide)) rfl (st := []) rfl (by decide) rfl (by decide) (Nat.le_of_ble_eq_true rfl) (Nat.le_refl _) (Nat.le_refl _) (fun r w' h => by obtain ⟨-, rfl⟩ := h; exact Nat.le_of_ble_eq_true rfl) ?_
  rintro _ _ ⟨rfl, rfl⟩
  refine ev_eq (lv' := [(0, .ref 0), (1, .int (nI (0))), (2, .int (nI (0)))]) (st' := [.int (nI (b01 (0 ≤ 0 ∧ 0 ≤ 2)))]) (w' := modW 0 S X K) rfl rfl rfl ?_
  refine ev_ifeq_b (tgt := 18) dX7_mean_6 (by decide) (fun h6 => (by exfalso; omega)) (fun h6 => ?_)
  refine ev_b bX7_mean_9_12 (lv' := [(0, .ref 0), (1, .int (nI (0))), (2, .int (nI (0)))]) (st' := [.int (nI (1)), .int (nI (0)), .int (nI (0))]) (w2 := modW 0 S X K) rfl ?_
  refine ev_callS (Yc := mX7_isIn) [] dX7_mean_12 tw_1036 kX7_isIn (m_X7_isIn_n 0 0 1 (by decide) (by decide) (by decide)) rfl (st := []) rfl (by decide) rfl (by decide) (Nat.le_of_ble_eq_true rfl) (Nat.le_refl _) (Nat.le_refl _) (fun r w' h => by obtain ⟨-, rfl⟩ := h; exact Nat.le_of_ble_eq_true rfl) ?_
  rintro _ _ ⟨rfl, rfl⟩
  refine ev_eq (lv' := [(0, .ref 0), (1, .int (nI (0))), (2, .int (nI (0)))]) (st' := [.int (nI (b01 (0 ≤ 0 ∧ 0 ≤ 1)))]) (w' := modW 0 S X K) rfl rfl rfl ?_
  refine ev_ifne_b (tgt := 30) dX7_mean_15 (by decide) (fun h15 => ?_) (fun h15 => (by exfalso; omega))
  refine ev_b bX7_mean_30_32 (lv' := [(0, .ref 0), (1, .int (nI (0))), (2, .int (nI (0)))]) (st' := [.int (nI (0)), .ref 0]) (w2 := modW 0 S X K) rfl ?_
  refine ev_callM (Yc := mX7_finds) (st := []) dX7_mean_32 tw_1216 kX7_finds (m_X7_finds_0 S X K hS hM) rfl rfl rfl rfl (by decide) (Nat.le_of_ble_eq_true rfl) (Nat.le_refl _) (Nat.le_refl _) (fun r w' h => by obtain ⟨-, wo, ta, rfl, -⟩ := h; exact mod_eq) ?_
  rintro _ _ ⟨rfl, wo, ta, rfl, hT⟩
  refine ev_eq (lv' := [(0, .ref 0), (1, .int (nI (0))), (2, .int (nI (0)))]) (st' := []) (w' := modW 0 S ((X.rf, wo, ta, (owF S), 0, X.sh, X.lt, X.ty, X.pl, X.nu, X.od, X.tt, X.oo, X.on, (wonZ S), (wonZ S), X.li, X.rr, X.rn, X.dr) : ModN) K) rfl rfl rfl ?_
  refine ev_b bX7_mean_35_40 (lv' := [(4, .int (nI (0))), (3, .int (nI (0))), (0, .ref 0), (1, .int (nI (0))), (2, .int (nI (0)))]) (st' := []) (w2 := modW 0 S ((X.rf, wo, ta, (owF S), 0, X.sh, X.lt, X.ty, X.pl, X.nu, X.od, X.tt, X.oo, X.on, (wonZ S), (wonZ S), X.li, X.rr, X.rn, X.dr) : ModN) K) rfl ?_
  have L40 : ∀ (j_ k : Nat), k + j_ = 5 → Ev l E mX7_mean (8) 0 0 (modW 0 S X K) (MP S K (X.lt) (X.ty) (X.rr) (X.rn) (X.rf) (some (.long (lN (frN ((totZ (wonZ S) 31 5).toNat) (cntTo (wonZ S) 5) 0))))) 0 0 40 [(4, .int (nI (k))), (3, .int (nI (cntTo (wonZ S) k))), (0, .ref 0), (1, .int (nI (0))), (2, .int (nI (0)))] [] (modW 0 S ((X.rf, wo, ta, (owF S), 0, X.sh, X.lt, X.ty, X.pl, X.nu, X.od, X.tt, X.oo, X.on, (wonZ S), (wonZ S), X.li, X.rr, X.rn, X.dr) : ModN) K) := by
    intro j_
    induction j_ with
    | zero =>
      intro k hk40  
      replace hk40 : k = 5 := hk40
      subst hk40
      refine ev_b bX7_mean_40_43 (lv' := [(4, .int (nI (5))), (3, .int (nI (cntTo (wonZ S) 5))), (0, .ref 0), (1, .int (nI (0))), (2, .int (nI (0)))]) (st' := [.int (nI (5)), .int (nI (5))]) (w2 := modW 0 S ((X.rf, wo, ta, (owF S), 0, X.sh, X.lt, X.ty, X.pl, X.nu, X.od, X.tt, X.oo, X.on, (wonZ S), (wonZ S), X.li, X.rr, X.rn, X.dr) : ModN) K) rfl ?_
      refine ev_icmp_ge_n (tgt := 70) (by decide) (by decide) dX7_mean_43 (by decide) (fun h43 => ?_) (fun h43 => (by exfalso; omega))
      have hcl := cntTo_le (wonZ S) 5
      have hz0 : cntTo (wonZ S) 5 = 0 → ((totZ (wonZ S) 31 5).toNat) = 0 := fun z => by rw [hz z]; rfl
      refine ev_b bX7_mean_70_75 (lv' := [(4, .int (nI (5))), (3, .int (nI (cntTo (wonZ S) 5))), (0, .ref 0), (1, .int (nI (0))), (2, .int (nI (0)))]) (st' := [.ref 17, .ref 0]) (w2 := modW 0 S ((X.rf, wo, ta, (owF S), 0, X.sh, X.lt, X.ty, X.pl, X.nu, X.od, X.tt, X.oo, X.on, (wonZ S), (wonZ S), X.li, X.rr, X.rn, X.dr) : ModN) K) rfl ?_
      refine ev_callM (Yc := mX7_together) (st := []) dX7_mean_75 tw_1240 kX7_together (m_X7_together_p S ((X.rf, wo, ta, (owF S), 0, X.sh, X.lt, X.ty, X.pl, X.nu, X.od, X.tt, X.oo, X.on, (wonZ S), (wonZ S), X.li, X.rr, X.rn, X.dr) : ModN) K) rfl rfl rfl rfl (by decide) (Nat.le_of_ble_eq_true rfl) (Nat.le_refl _) (Nat.le_refl _) (fun r w' h => by obtain ⟨-, rfl⟩ := h; exact mod_eq) ?_
      rintro _ _ ⟨rfl, rfl⟩
      refine ev_eq (lv' := [(4, .int (nI (5))), (3, .int (nI (cntTo (wonZ S) 5))), (0, .ref 0), (1, .int (nI (0))), (2, .int (nI (0)))]) (st' := [.int (zI (totZ (wonZ S) 31 5))]) (w' := modW 0 S ((X.rf, wo, ta, (owF S), 0, X.sh, X.lt, X.ty, X.pl, X.nu, X.od, X.tt, X.oo, X.on, (wonZ S), (wonZ S), X.li, X.rr, X.rn, X.dr) : ModN) K) rfl rfl rfl ?_
      refine ev_top (y := (nI ((totZ (wonZ S) 31 5).toNat))) (by rw [show totZ (wonZ S) 31 5 = (((totZ (wonZ S) 31 5).toNat : Nat) : Int) from by exact (Int.toNat_of_nonneg hnn.1).symm]; exact zI_nat _) ?_
      refine ev_b bX7_mean_78_79 (lv' := [(4, .int (nI (5))), (3, .int (nI (cntTo (wonZ S) 5))), (0, .ref 0), (1, .int (nI (0))), (2, .int (nI (0)))]) (st' := [.long (Int32.toInt64 ((nI ((totZ (wonZ S) 31 5).toNat))))]) (w2 := modW 0 S ((X.rf, wo, ta, (owF S), 0, X.sh, X.lt, X.ty, X.pl, X.nu, X.od, X.tt, X.oo, X.on, (wonZ S), (wonZ S), X.li, X.rr, X.rn, X.dr) : ModN) K) rfl ?_
      refine ev_topL (y := lN ((totZ (wonZ S) 31 5).toNat)) (by exact nI_lN (by omega)) ?_
      refine ev_b bX7_mean_79_81 (lv' := [(4, .int (nI (5))), (3, .int (nI (cntTo (wonZ S) 5))), (0, .ref 0), (1, .int (nI (0))), (2, .int (nI (0)))]) (st' := [.int (nI (cntTo (wonZ S) 5)), .int (nI (1)), .long (lN ((totZ (wonZ S) 31 5).toNat))]) (w2 := modW 0 S ((X.rf, wo, ta, (owF S), 0, X.sh, X.lt, X.ty, X.pl, X.nu, X.od, X.tt, X.oo, X.on, (wonZ S), (wonZ S), X.li, X.rr, X.rn, X.dr) : ModN) K) rfl ?_
      refine ev_max dX7_mean_81 tw_1187 tw_655 tw_15 tw_656 (by decide) (Nat.le_of_ble_eq_true rfl) (Nat.le_refl _) (Nat.le_refl _) ?_
      refine ev_top (n_max (by decide) (by omega)) ?_
      refine ev_b bX7_mean_84_85 (lv' := [(4, .int (nI (5))), (3, .int (nI (cntTo (wonZ S) 5))), (0, .ref 0), (1, .int (nI (0))), (2, .int (nI (0)))]) (st' := [.long (Int32.toInt64 ((nI (max 1 (cntTo (wonZ S) 5))))), .long (lN ((totZ (wonZ S) 31 5).toNat))]) (w2 := modW 0 S ((X.rf, wo, ta, (owF S), 0, X.sh, X.lt, X.ty, X.pl, X.nu, X.od, X.tt, X.oo, X.on, (wonZ S), (wonZ S), X.li, X.rr, X.rn, X.dr) : ModN) K) rfl ?_
      refine ev_topL (y := lN (max 1 (cntTo (wonZ S) 5))) (by exact nI_lN (by omega)) ?_
      refine ev_b bX7_mean_85_86 (lv' := [(4, .int (nI (5))), (3, .int (nI (cntTo (wonZ S) 5))), (0, .ref 0), (1, .int (nI (0))), (2, .int (nI (0)))]) (st' := [.int (nI (0)), .long (lN (max 1 (cntTo (wonZ S) 5))), .long (lN ((totZ (wonZ S) 31 5).toNat))]) (w2 := modW 0 S ((X.rf, wo, ta, (owF S), 0, X.sh, X.lt, X.ty, X.pl, X.nu, X.od, X.tt, X.oo, X.on, (wonZ S), (wonZ S), X.li, X.rr, X.rn, X.dr) : ModN) K) rfl ?_
      refine ev_callS (Yc := mX7_partOf) [] dX7_mean_86 tw_1287 kX7_partOf (m_X7_partOf_0 ((totZ (wonZ S) 31 5).toNat) (max 1 (cntTo (wonZ S) 5)) (big_lt (by omega)) (big_lt (by omega)) (by omega)) rfl (st := []) rfl (by decide) rfl (by decide) (Nat.le_of_ble_eq_true rfl) (Nat.le_refl _) (Nat.le_refl _) (fun r w' h => by obtain ⟨-, rfl⟩ := h; exact Nat.le_of_ble_eq_true rfl) ?_
      rintro _ _ ⟨rfl, rfl⟩
      refine ev_eq (lv' := [(4, .int (nI (5))), (3, .int (nI (cntTo (wonZ S) 5))), (0, .ref 0), (1, .int (nI (0))), (2, .int (nI (0)))]) (st' := [.long (lN (frN ((totZ (wonZ S) 31 5).toNat) (max 1 (cntTo (wonZ S) 5)) 0))]) (w' := modW 0 S ((X.rf, wo, ta, (owF S), 0, X.sh, X.lt, X.ty, X.pl, X.nu, X.od, X.tt, X.oo, X.on, (wonZ S), (wonZ S), X.li, X.rr, X.rn, X.dr) : ModN) K) rfl rfl rfl ?_
      refine ev_topL (y := lN (frN ((totZ (wonZ S) 31 5).toNat) (cntTo (wonZ S) 5) 0)) (by rw [fr_max hz0 (by decide)]) ?_
      exact ev_lret dX7_mean_89 rfl mod_le (Nat.le_refl _) (Nat.le_refl _) ⟨rfl, _, rfl, mok_fresh hM.1 rfl hT, rfl, rfl, rfl, rfl, rfl⟩
    | succ j_ ih40 =>
      intro k hk40  
      have hlt40 : k < 5 := by omega
      have hwk := wonZ_bnd hS k
      refine ev_b bX7_mean_40_43 (lv' := [(4, .int (nI (k))), (3, .int (nI (cntTo (wonZ S) k))), (0, .ref 0), (1, .int (nI (0))), (2, .int (nI (0)))]) (st' := [.int (nI (5)), .int (nI (k))]) (w2 := modW 0 S ((X.rf, wo, ta, (owF S), 0, X.sh, X.lt, X.ty, X.pl, X.nu, X.od, X.tt, X.oo, X.on, (wonZ S), (wonZ S), X.li, X.rr, X.rn, X.dr) : ModN) K) rfl ?_
      refine ev_icmp_ge_n (tgt := 70) (by omega) (by decide) dX7_mean_43 (by decide) (fun h43 => (by exfalso; omega)) (fun h43 => ?_)
      refine ev_b bX7_mean_46_53 (lv' := [(4, .int (nI (k))), (3, .int (nI (cntTo (wonZ S) k))), (0, .ref 0), (1, .int (nI (0))), (2, .int (nI (0)))]) (st' := [.int (nI (k)), .ref 16, .int (nI (cntTo (wonZ S) k))]) (w2 := modW 0 S ((X.rf, wo, ta, (owF S), 0, X.sh, X.lt, X.ty, X.pl, X.nu, X.od, X.tt, X.oo, X.on, (wonZ S), (wonZ S), X.li, X.rr, X.rn, X.dr) : ModN) K) rfl ?_
      refine ev_iald_z (f := (wonZ S)) dX7_mean_53 rfl (by omega) (by decide) ?_
      refine ev_if_le_z (tgt := 61) (by constructor <;> omega) dX7_mean_54 (by decide) (fun h54 => ?_) (fun h54 => ?_)
      · skip
        refine ev_b bX7_mean_61_62 (lv' := [(4, .int (nI (k))), (3, .int (nI (cntTo (wonZ S) k))), (0, .ref 0), (1, .int (nI (0))), (2, .int (nI (0)))]) (st' := [.int (nI (0)), .int (nI (cntTo (wonZ S) k))]) (w2 := modW 0 S ((X.rf, wo, ta, (owF S), 0, X.sh, X.lt, X.ty, X.pl, X.nu, X.od, X.tt, X.oo, X.on, (wonZ S), (wonZ S), X.li, X.rr, X.rn, X.dr) : ModN) K) rfl ?_
        refine ev_iadd_n dX7_mean_62 ?_
        refine ev_b bX7_mean_63_64 (lv' := [(3, .int (nI ((cntTo (wonZ S) k) + 0))), (4, .int (nI (k))), (0, .ref 0), (1, .int (nI (0))), (2, .int (nI (0)))]) (st' := []) (w2 := modW 0 S ((X.rf, wo, ta, (owF S), 0, X.sh, X.lt, X.ty, X.pl, X.nu, X.od, X.tt, X.oo, X.on, (wonZ S), (wonZ S), X.li, X.rr, X.rn, X.dr) : ModN) K) rfl ?_
        refine ev_iinc_n (x := k) (v := 1) dX7_mean_64 rfl (by decide) ?_
        refine ev_eq (lv' := [(4, .int (nI (k + 1))), (3, .int (nI ((cntTo (wonZ S) k) + 0))), (0, .ref 0), (1, .int (nI (0))), (2, .int (nI (0)))]) rfl rfl rfl ?_
        refine ev_b bX7_mean_67_40 (lv' := [(4, .int (nI (k + 1))), (3, .int (nI ((cntTo (wonZ S) k) + 0))), (0, .ref 0), (1, .int (nI (0))), (2, .int (nI (0)))]) (st' := []) (w2 := modW 0 S ((X.rf, wo, ta, (owF S), 0, X.sh, X.lt, X.ty, X.pl, X.nu, X.od, X.tt, X.oo, X.on, (wonZ S), (wonZ S), X.li, X.rr, X.rn, X.dr) : ModN) K) rfl ?_
        rw [show nI (k + 1) = nI ((k + 1)) from congrArg nI (by omega)]
        rw [show nI ((cntTo (wonZ S) k) + 0) = nI (cntTo (wonZ S) (k + 1)) from congrArg nI (by rw [cntTo_s]; first | rw [if_neg (Int.not_lt.mpr h54)] | rw [if_pos (Int.not_le.mp h54)])]
        exact ih40 (k + 1) (by omega) 
      · skip
        refine ev_b bX7_mean_57_62 (lv' := [(4, .int (nI (k))), (3, .int (nI (cntTo (wonZ S) k))), (0, .ref 0), (1, .int (nI (0))), (2, .int (nI (0)))]) (st' := [.int (nI (1)), .int (nI (cntTo (wonZ S) k))]) (w2 := modW 0 S ((X.rf, wo, ta, (owF S), 0, X.sh, X.lt, X.ty, X.pl, X.nu, X.od, X.tt, X.oo, X.on, (wonZ S), (wonZ S), X.li, X.rr, X.rn, X.dr) : ModN) K) rfl ?_
        refine ev_iadd_n dX7_mean_62 ?_
        refine ev_b bX7_mean_63_64 (lv' := [(3, .int (nI ((cntTo (wonZ S) k) + 1))), (4, .int (nI (k))), (0, .ref 0), (1, .int (nI (0))), (2, .int (nI (0)))]) (st' := []) (w2 := modW 0 S ((X.rf, wo, ta, (owF S), 0, X.sh, X.lt, X.ty, X.pl, X.nu, X.od, X.tt, X.oo, X.on, (wonZ S), (wonZ S), X.li, X.rr, X.rn, X.dr) : ModN) K) rfl ?_
        refine ev_iinc_n (x := k) (v := 1) dX7_mean_64 rfl (by decide) ?_
        refine ev_eq (lv' := [(4, .int (nI (k + 1))), (3, .int (nI ((cntTo (wonZ S) k) + 1))), (0, .ref 0), (1, .int (nI (0))), (2, .int (nI (0)))]) rfl rfl rfl ?_
        refine ev_b bX7_mean_67_40 (lv' := [(4, .int (nI (k + 1))), (3, .int (nI ((cntTo (wonZ S) k) + 1))), (0, .ref 0), (1, .int (nI (0))), (2, .int (nI (0)))]) (st' := []) (w2 := modW 0 S ((X.rf, wo, ta, (owF S), 0, X.sh, X.lt, X.ty, X.pl, X.nu, X.od, X.tt, X.oo, X.on, (wonZ S), (wonZ S), X.li, X.rr, X.rn, X.dr) : ModN) K) rfl ?_
        rw [show nI (k + 1) = nI ((k + 1)) from congrArg nI (by omega)]
        rw [show nI ((cntTo (wonZ S) k) + 1) = nI (cntTo (wonZ S) (k + 1)) from congrArg nI (by rw [cntTo_s]; first | rw [if_neg (Int.not_lt.mpr h54)] | rw [if_pos (Int.not_le.mp h54)])]
        exact ih40 (k + 1) (by omega) 
  exact L40 5 0 (by omega) 
set_option maxHeartbeats 4000000 in
set_option maxRecDepth 100000 in
theorem q_mean_w0_1 {l : Launch} {E : XE} (S : SaleN) (X : ModN) (K : Option (Nat → Nat)) (n : Nat) (hS : SaleOK S) (hM : MOK S X) (hn : LiftsTo S n) (hnn : 0 ≤ totZ (wonZ S) 31 5 ∧ totZ (wonZ S) 31 5 ≤ 5000) (hz : cntTo (wonZ S) 5 = 0 → totZ (wonZ S) 31 5 = 0) : MetE l E mX7_mean (8) 0 0 [.ref 0, .int (nI (0)), .int (nI (1))] (modW 0 S X K) (MP S K (X.lt) (X.ty) (X.rr) (X.rn) (X.rf) (some (.long (lN (frN ((totZ (wonZ S) 31 5).toNat) (cntTo (wonZ S) 5) 1))))) := by
  refine MetE.of (by decide +kernel) (Nat.le_of_ble_eq_true rfl) ?_
  have hca := hS.1
  have hpw := pow_ca hS
  have hac := ac_lt hS
  have hshl := shl_le hS
  
  refine ev_eq (lv' := [(0, .ref 0), (1, .int (nI (0))), (2, .int (nI (1)))]) (st' := []) (w' := modW 0 S X K) rfl rfl rfl ?_
  refine ev_b bX7_mean_0_3 (lv' := [(0, .ref 0), (1, .int (nI (0))), (2, .int (nI (1)))]) (st' := [.int (nI (2)), .int (nI (0)), .int (nI (0))]) (w2 := modW 0 S X K) rfl ?_
  refine ev_callS (Yc := mX7_isIn) [] dX7_mean_3 tw_1036 kX7_isIn (m_X7_isIn_n 0 0 2 (by decide) (by decide) (by decide)) rfl (st := []) rfl (by decide) rfl (by decide) (Nat.le_of_ble_eq_true rfl) (Nat.le_refl _) (Nat.le_refl _) (fun r w' h => by obtain ⟨-, rfl⟩ := h; exact Nat.le_of_ble_eq_true rfl) ?_
  rintro _ _ ⟨rfl, rfl⟩
  refine ev_eq (lv' := [(0, .ref 0), (1, .int (nI (0))), (2, .int (nI (1)))]) (st' := [.int (nI (b01 (0 ≤ 0 ∧ 0 ≤ 2)))]) (w' := modW 0 S X K) rfl rfl rfl ?_
  refine ev_ifeq_b (tgt := 18) dX7_mean_6 (by decide) (fun h6 => (by exfalso; omega)) (fun h6 => ?_)
  refine ev_b bX7_mean_9_12 (lv' := [(0, .ref 0), (1, .int (nI (0))), (2, .int (nI (1)))]) (st' := [.int (nI (1)), .int (nI (0)), .int (nI (1))]) (w2 := modW 0 S X K) rfl ?_
  refine ev_callS (Yc := mX7_isIn) [] dX7_mean_12 tw_1036 kX7_isIn (m_X7_isIn_n 1 0 1 (by decide) (by decide) (by decide)) rfl (st := []) rfl (by decide) rfl (by decide) (Nat.le_of_ble_eq_true rfl) (Nat.le_refl _) (Nat.le_refl _) (fun r w' h => by obtain ⟨-, rfl⟩ := h; exact Nat.le_of_ble_eq_true rfl) ?_
  rintro _ _ ⟨rfl, rfl⟩
  refine ev_eq (lv' := [(0, .ref 0), (1, .int (nI (0))), (2, .int (nI (1)))]) (st' := [.int (nI (b01 (0 ≤ 1 ∧ 1 ≤ 1)))]) (w' := modW 0 S X K) rfl rfl rfl ?_
  refine ev_ifne_b (tgt := 30) dX7_mean_15 (by decide) (fun h15 => ?_) (fun h15 => (by exfalso; omega))
  refine ev_b bX7_mean_30_32 (lv' := [(0, .ref 0), (1, .int (nI (0))), (2, .int (nI (1)))]) (st' := [.int (nI (0)), .ref 0]) (w2 := modW 0 S X K) rfl ?_
  refine ev_callM (Yc := mX7_finds) (st := []) dX7_mean_32 tw_1216 kX7_finds (m_X7_finds_0 S X K hS hM) rfl rfl rfl rfl (by decide) (Nat.le_of_ble_eq_true rfl) (Nat.le_refl _) (Nat.le_refl _) (fun r w' h => by obtain ⟨-, wo, ta, rfl, -⟩ := h; exact mod_eq) ?_
  rintro _ _ ⟨rfl, wo, ta, rfl, hT⟩
  refine ev_eq (lv' := [(0, .ref 0), (1, .int (nI (0))), (2, .int (nI (1)))]) (st' := []) (w' := modW 0 S ((X.rf, wo, ta, (owF S), 0, X.sh, X.lt, X.ty, X.pl, X.nu, X.od, X.tt, X.oo, X.on, (wonZ S), (wonZ S), X.li, X.rr, X.rn, X.dr) : ModN) K) rfl rfl rfl ?_
  refine ev_b bX7_mean_35_40 (lv' := [(4, .int (nI (0))), (3, .int (nI (0))), (0, .ref 0), (1, .int (nI (0))), (2, .int (nI (1)))]) (st' := []) (w2 := modW 0 S ((X.rf, wo, ta, (owF S), 0, X.sh, X.lt, X.ty, X.pl, X.nu, X.od, X.tt, X.oo, X.on, (wonZ S), (wonZ S), X.li, X.rr, X.rn, X.dr) : ModN) K) rfl ?_
  have L40 : ∀ (j_ k : Nat), k + j_ = 5 → Ev l E mX7_mean (8) 0 0 (modW 0 S X K) (MP S K (X.lt) (X.ty) (X.rr) (X.rn) (X.rf) (some (.long (lN (frN ((totZ (wonZ S) 31 5).toNat) (cntTo (wonZ S) 5) 1))))) 0 0 40 [(4, .int (nI (k))), (3, .int (nI (cntTo (wonZ S) k))), (0, .ref 0), (1, .int (nI (0))), (2, .int (nI (1)))] [] (modW 0 S ((X.rf, wo, ta, (owF S), 0, X.sh, X.lt, X.ty, X.pl, X.nu, X.od, X.tt, X.oo, X.on, (wonZ S), (wonZ S), X.li, X.rr, X.rn, X.dr) : ModN) K) := by
    intro j_
    induction j_ with
    | zero =>
      intro k hk40  
      replace hk40 : k = 5 := hk40
      subst hk40
      refine ev_b bX7_mean_40_43 (lv' := [(4, .int (nI (5))), (3, .int (nI (cntTo (wonZ S) 5))), (0, .ref 0), (1, .int (nI (0))), (2, .int (nI (1)))]) (st' := [.int (nI (5)), .int (nI (5))]) (w2 := modW 0 S ((X.rf, wo, ta, (owF S), 0, X.sh, X.lt, X.ty, X.pl, X.nu, X.od, X.tt, X.oo, X.on, (wonZ S), (wonZ S), X.li, X.rr, X.rn, X.dr) : ModN) K) rfl ?_
      refine ev_icmp_ge_n (tgt := 70) (by decide) (by decide) dX7_mean_43 (by decide) (fun h43 => ?_) (fun h43 => (by exfalso; omega))
      have hcl := cntTo_le (wonZ S) 5
      have hz0 : cntTo (wonZ S) 5 = 0 → ((totZ (wonZ S) 31 5).toNat) = 0 := fun z => by rw [hz z]; rfl
      refine ev_b bX7_mean_70_75 (lv' := [(4, .int (nI (5))), (3, .int (nI (cntTo (wonZ S) 5))), (0, .ref 0), (1, .int (nI (0))), (2, .int (nI (1)))]) (st' := [.ref 17, .ref 0]) (w2 := modW 0 S ((X.rf, wo, ta, (owF S), 0, X.sh, X.lt, X.ty, X.pl, X.nu, X.od, X.tt, X.oo, X.on, (wonZ S), (wonZ S), X.li, X.rr, X.rn, X.dr) : ModN) K) rfl ?_
      refine ev_callM (Yc := mX7_together) (st := []) dX7_mean_75 tw_1240 kX7_together (m_X7_together_p S ((X.rf, wo, ta, (owF S), 0, X.sh, X.lt, X.ty, X.pl, X.nu, X.od, X.tt, X.oo, X.on, (wonZ S), (wonZ S), X.li, X.rr, X.rn, X.dr) : ModN) K) rfl rfl rfl rfl (by decide) (Nat.le_of_ble_eq_true rfl) (Nat.le_refl _) (Nat.le_refl _) (fun r w' h => by obtain ⟨-, rfl⟩ := h; exact mod_eq) ?_
      rintro _ _ ⟨rfl, rfl⟩
      refine ev_eq (lv' := [(4, .int (nI (5))), (3, .int (nI (cntTo (wonZ S) 5))), (0, .ref 0), (1, .int (nI (0))), (2, .int (nI (1)))]) (st' := [.int (zI (totZ (wonZ S) 31 5))]) (w' := modW 0 S ((X.rf, wo, ta, (owF S), 0, X.sh, X.lt, X.ty, X.pl, X.nu, X.od, X.tt, X.oo, X.on, (wonZ S), (wonZ S), X.li, X.rr, X.rn, X.dr) : ModN) K) rfl rfl rfl ?_
      refine ev_top (y := (nI ((totZ (wonZ S) 31 5).toNat))) (by rw [show totZ (wonZ S) 31 5 = (((totZ (wonZ S) 31 5).toNat : Nat) : Int) from by exact (Int.toNat_of_nonneg hnn.1).symm]; exact zI_nat _) ?_
      refine ev_b bX7_mean_78_79 (lv' := [(4, .int (nI (5))), (3, .int (nI (cntTo (wonZ S) 5))), (0, .ref 0), (1, .int (nI (0))), (2, .int (nI (1)))]) (st' := [.long (Int32.toInt64 ((nI ((totZ (wonZ S) 31 5).toNat))))]) (w2 := modW 0 S ((X.rf, wo, ta, (owF S), 0, X.sh, X.lt, X.ty, X.pl, X.nu, X.od, X.tt, X.oo, X.on, (wonZ S), (wonZ S), X.li, X.rr, X.rn, X.dr) : ModN) K) rfl ?_
      refine ev_topL (y := lN ((totZ (wonZ S) 31 5).toNat)) (by exact nI_lN (by omega)) ?_
      refine ev_b bX7_mean_79_81 (lv' := [(4, .int (nI (5))), (3, .int (nI (cntTo (wonZ S) 5))), (0, .ref 0), (1, .int (nI (0))), (2, .int (nI (1)))]) (st' := [.int (nI (cntTo (wonZ S) 5)), .int (nI (1)), .long (lN ((totZ (wonZ S) 31 5).toNat))]) (w2 := modW 0 S ((X.rf, wo, ta, (owF S), 0, X.sh, X.lt, X.ty, X.pl, X.nu, X.od, X.tt, X.oo, X.on, (wonZ S), (wonZ S), X.li, X.rr, X.rn, X.dr) : ModN) K) rfl ?_
      refine ev_max dX7_mean_81 tw_1187 tw_655 tw_15 tw_656 (by decide) (Nat.le_of_ble_eq_true rfl) (Nat.le_refl _) (Nat.le_refl _) ?_
      refine ev_top (n_max (by decide) (by omega)) ?_
      refine ev_b bX7_mean_84_85 (lv' := [(4, .int (nI (5))), (3, .int (nI (cntTo (wonZ S) 5))), (0, .ref 0), (1, .int (nI (0))), (2, .int (nI (1)))]) (st' := [.long (Int32.toInt64 ((nI (max 1 (cntTo (wonZ S) 5))))), .long (lN ((totZ (wonZ S) 31 5).toNat))]) (w2 := modW 0 S ((X.rf, wo, ta, (owF S), 0, X.sh, X.lt, X.ty, X.pl, X.nu, X.od, X.tt, X.oo, X.on, (wonZ S), (wonZ S), X.li, X.rr, X.rn, X.dr) : ModN) K) rfl ?_
      refine ev_topL (y := lN (max 1 (cntTo (wonZ S) 5))) (by exact nI_lN (by omega)) ?_
      refine ev_b bX7_mean_85_86 (lv' := [(4, .int (nI (5))), (3, .int (nI (cntTo (wonZ S) 5))), (0, .ref 0), (1, .int (nI (0))), (2, .int (nI (1)))]) (st' := [.int (nI (1)), .long (lN (max 1 (cntTo (wonZ S) 5))), .long (lN ((totZ (wonZ S) 31 5).toNat))]) (w2 := modW 0 S ((X.rf, wo, ta, (owF S), 0, X.sh, X.lt, X.ty, X.pl, X.nu, X.od, X.tt, X.oo, X.on, (wonZ S), (wonZ S), X.li, X.rr, X.rn, X.dr) : ModN) K) rfl ?_
      refine ev_callS (Yc := mX7_partOf) [] dX7_mean_86 tw_1287 kX7_partOf (m_X7_partOf_1 ((totZ (wonZ S) 31 5).toNat) (max 1 (cntTo (wonZ S) 5)) (big_lt (by omega)) (big_lt (by omega)) (by omega)) rfl (st := []) rfl (by decide) rfl (by decide) (Nat.le_of_ble_eq_true rfl) (Nat.le_refl _) (Nat.le_refl _) (fun r w' h => by obtain ⟨-, rfl⟩ := h; exact Nat.le_of_ble_eq_true rfl) ?_
      rintro _ _ ⟨rfl, rfl⟩
      refine ev_eq (lv' := [(4, .int (nI (5))), (3, .int (nI (cntTo (wonZ S) 5))), (0, .ref 0), (1, .int (nI (0))), (2, .int (nI (1)))]) (st' := [.long (lN (frN ((totZ (wonZ S) 31 5).toNat) (max 1 (cntTo (wonZ S) 5)) 1))]) (w' := modW 0 S ((X.rf, wo, ta, (owF S), 0, X.sh, X.lt, X.ty, X.pl, X.nu, X.od, X.tt, X.oo, X.on, (wonZ S), (wonZ S), X.li, X.rr, X.rn, X.dr) : ModN) K) rfl rfl rfl ?_
      refine ev_topL (y := lN (frN ((totZ (wonZ S) 31 5).toNat) (cntTo (wonZ S) 5) 1)) (by rw [fr_max hz0 (by decide)]) ?_
      exact ev_lret dX7_mean_89 rfl mod_le (Nat.le_refl _) (Nat.le_refl _) ⟨rfl, _, rfl, mok_fresh hM.1 rfl hT, rfl, rfl, rfl, rfl, rfl⟩
    | succ j_ ih40 =>
      intro k hk40  
      have hlt40 : k < 5 := by omega
      have hwk := wonZ_bnd hS k
      refine ev_b bX7_mean_40_43 (lv' := [(4, .int (nI (k))), (3, .int (nI (cntTo (wonZ S) k))), (0, .ref 0), (1, .int (nI (0))), (2, .int (nI (1)))]) (st' := [.int (nI (5)), .int (nI (k))]) (w2 := modW 0 S ((X.rf, wo, ta, (owF S), 0, X.sh, X.lt, X.ty, X.pl, X.nu, X.od, X.tt, X.oo, X.on, (wonZ S), (wonZ S), X.li, X.rr, X.rn, X.dr) : ModN) K) rfl ?_
      refine ev_icmp_ge_n (tgt := 70) (by omega) (by decide) dX7_mean_43 (by decide) (fun h43 => (by exfalso; omega)) (fun h43 => ?_)
      refine ev_b bX7_mean_46_53 (lv' := [(4, .int (nI (k))), (3, .int (nI (cntTo (wonZ S) k))), (0, .ref 0), (1, .int (nI (0))), (2, .int (nI (1)))]) (st' := [.int (nI (k)), .ref 16, .int (nI (cntTo (wonZ S) k))]) (w2 := modW 0 S ((X.rf, wo, ta, (owF S), 0, X.sh, X.lt, X.ty, X.pl, X.nu, X.od, X.tt, X.oo, X.on, (wonZ S), (wonZ S), X.li, X.rr, X.rn, X.dr) : ModN) K) rfl ?_
      refine ev_iald_z (f := (wonZ S)) dX7_mean_53 rfl (by omega) (by decide) ?_
      refine ev_if_le_z (tgt := 61) (by constructor <;> omega) dX7_mean_54 (by decide) (fun h54 => ?_) (fun h54 => ?_)
      · skip
        refine ev_b bX7_mean_61_62 (lv' := [(4, .int (nI (k))), (3, .int (nI (cntTo (wonZ S) k))), (0, .ref 0), (1, .int (nI (0))), (2, .int (nI (1)))]) (st' := [.int (nI (0)), .int (nI (cntTo (wonZ S) k))]) (w2 := modW 0 S ((X.rf, wo, ta, (owF S), 0, X.sh, X.lt, X.ty, X.pl, X.nu, X.od, X.tt, X.oo, X.on, (wonZ S), (wonZ S), X.li, X.rr, X.rn, X.dr) : ModN) K) rfl ?_
        refine ev_iadd_n dX7_mean_62 ?_
        refine ev_b bX7_mean_63_64 (lv' := [(3, .int (nI ((cntTo (wonZ S) k) + 0))), (4, .int (nI (k))), (0, .ref 0), (1, .int (nI (0))), (2, .int (nI (1)))]) (st' := []) (w2 := modW 0 S ((X.rf, wo, ta, (owF S), 0, X.sh, X.lt, X.ty, X.pl, X.nu, X.od, X.tt, X.oo, X.on, (wonZ S), (wonZ S), X.li, X.rr, X.rn, X.dr) : ModN) K) rfl ?_
        refine ev_iinc_n (x := k) (v := 1) dX7_mean_64 rfl (by decide) ?_
        refine ev_eq (lv' := [(4, .int (nI (k + 1))), (3, .int (nI ((cntTo (wonZ S) k) + 0))), (0, .ref 0), (1, .int (nI (0))), (2, .int (nI (1)))]) rfl rfl rfl ?_
        refine ev_b bX7_mean_67_40 (lv' := [(4, .int (nI (k + 1))), (3, .int (nI ((cntTo (wonZ S) k) + 0))), (0, .ref 0), (1, .int (nI (0))), (2, .int (nI (1)))]) (st' := []) (w2 := modW 0 S ((X.rf, wo, ta, (owF S), 0, X.sh, X.lt, X.ty, X.pl, X.nu, X.od, X.tt, X.oo, X.on, (wonZ S), (wonZ S), X.li, X.rr, X.rn, X.dr) : ModN) K) rfl ?_
        rw [show nI (k + 1) = nI ((k + 1)) from congrArg nI (by omega)]
        rw [show nI ((cntTo (wonZ S) k) + 0) = nI (cntTo (wonZ S) (k + 1)) from congrArg nI (by rw [cntTo_s]; first | rw [if_neg (Int.not_lt.mpr h54)] | rw [if_pos (Int.not_le.mp h54)])]
        exact ih40 (k + 1) (by omega) 
      · skip
        refine ev_b bX7_mean_57_62 (lv' := [(4, .int (nI (k))), (3, .int (nI (cntTo (wonZ S) k))), (0, .ref 0), (1, .int (nI (0))), (2, .int (nI (1)))]) (st' := [.int (nI (1)), .int (nI (cntTo (wonZ S) k))]) (w2 := modW 0 S ((X.rf, wo, ta, (owF S), 0, X.sh, X.lt, X.ty, X.pl, X.nu, X.od, X.tt, X.oo, X.on, (wonZ S), (wonZ S), X.li, X.rr, X.rn, X.dr) : ModN) K) rfl ?_
        refine ev_iadd_n dX7_mean_62 ?_
        refine ev_b bX7_mean_63_64 (lv' := [(3, .int (nI ((cntTo (wonZ S) k) + 1))), (4, .int (nI (k))), (0, .ref 0), (1, .int (nI (0))), (2, .int (nI (1)))]) (st' := []) (w2 := modW 0 S ((X.rf, wo, ta, (owF S), 0, X.sh, X.lt, X.ty, X.pl, X.nu, X.od, X.tt, X.oo, X.on, (wonZ S), (wonZ S), X.li, X.rr, X.rn, X.dr) : ModN) K) rfl ?_
        refine ev_iinc_n (x := k) (v := 1) dX7_mean_64 rfl (by decide) ?_
        refine ev_eq (lv' := [(4, .int (nI (k + 1))), (3, .int (nI ((cntTo (wonZ S) k) + 1))), (0, .ref 0), (1, .int (nI (0))), (2, .int (nI (1)))]) rfl rfl rfl ?_
        refine ev_b bX7_mean_67_40 (lv' := [(4, .int (nI (k + 1))), (3, .int (nI ((cntTo (wonZ S) k) + 1))), (0, .ref 0), (1, .int (nI (0))), (2, .int (nI (1)))]) (st' := []) (w2 := modW 0 S ((X.rf, wo, ta, (owF S), 0, X.sh, X.lt, X.ty, X.pl, X.nu, X.od, X.tt, X.oo, X.on, (wonZ S), (wonZ S), X.li, X.rr, X.rn, X.dr) : ModN) K) rfl ?_
        rw [show nI (k + 1) = nI ((k + 1)) from congrArg nI (by omega)]
        rw [show nI ((cntTo (wonZ S) k) + 1) = nI (cntTo (wonZ S) (k + 1)) from congrArg nI (by rw [cntTo_s]; first | rw [if_neg (Int.not_lt.mpr h54)] | rw [if_pos (Int.not_le.mp h54)])]
        exact ih40 (k + 1) (by omega) 
  exact L40 5 0 (by omega) 
set_option maxHeartbeats 4000000 in
set_option maxRecDepth 100000 in
theorem q_mean_w1_0 {l : Launch} {E : XE} (S : SaleN) (X : ModN) (K : Option (Nat → Nat)) (n : Nat) (hS : SaleOK S) (hM : MOK S X) (hn : LiftsTo S n) (hnn : 0 ≤ totZ (paidZ S) 31 5 ∧ totZ (paidZ S) 31 5 ≤ 5000) (hz : cntTo (wonZ S) 5 = 0 → totZ (paidZ S) 31 5 = 0) : MetE l E mX7_mean (8) 0 0 [.ref 0, .int (nI (1)), .int (nI (0))] (modW 0 S X K) (MP S K (X.lt) (X.ty) (X.rr) (X.rn) (X.rf) (some (.long (lN (frN ((totZ (paidZ S) 31 5).toNat) (cntTo (wonZ S) 5) 0))))) := by
  refine MetE.of (by decide +kernel) (Nat.le_of_ble_eq_true rfl) ?_
  have hca := hS.1
  have hpw := pow_ca hS
  have hac := ac_lt hS
  have hshl := shl_le hS
  
  refine ev_eq (lv' := [(0, .ref 0), (1, .int (nI (1))), (2, .int (nI (0)))]) (st' := []) (w' := modW 0 S X K) rfl rfl rfl ?_
  refine ev_b bX7_mean_0_3 (lv' := [(0, .ref 0), (1, .int (nI (1))), (2, .int (nI (0)))]) (st' := [.int (nI (2)), .int (nI (0)), .int (nI (1))]) (w2 := modW 0 S X K) rfl ?_
  refine ev_callS (Yc := mX7_isIn) [] dX7_mean_3 tw_1036 kX7_isIn (m_X7_isIn_n 1 0 2 (by decide) (by decide) (by decide)) rfl (st := []) rfl (by decide) rfl (by decide) (Nat.le_of_ble_eq_true rfl) (Nat.le_refl _) (Nat.le_refl _) (fun r w' h => by obtain ⟨-, rfl⟩ := h; exact Nat.le_of_ble_eq_true rfl) ?_
  rintro _ _ ⟨rfl, rfl⟩
  refine ev_eq (lv' := [(0, .ref 0), (1, .int (nI (1))), (2, .int (nI (0)))]) (st' := [.int (nI (b01 (0 ≤ 1 ∧ 1 ≤ 2)))]) (w' := modW 0 S X K) rfl rfl rfl ?_
  refine ev_ifeq_b (tgt := 18) dX7_mean_6 (by decide) (fun h6 => (by exfalso; omega)) (fun h6 => ?_)
  refine ev_b bX7_mean_9_12 (lv' := [(0, .ref 0), (1, .int (nI (1))), (2, .int (nI (0)))]) (st' := [.int (nI (1)), .int (nI (0)), .int (nI (0))]) (w2 := modW 0 S X K) rfl ?_
  refine ev_callS (Yc := mX7_isIn) [] dX7_mean_12 tw_1036 kX7_isIn (m_X7_isIn_n 0 0 1 (by decide) (by decide) (by decide)) rfl (st := []) rfl (by decide) rfl (by decide) (Nat.le_of_ble_eq_true rfl) (Nat.le_refl _) (Nat.le_refl _) (fun r w' h => by obtain ⟨-, rfl⟩ := h; exact Nat.le_of_ble_eq_true rfl) ?_
  rintro _ _ ⟨rfl, rfl⟩
  refine ev_eq (lv' := [(0, .ref 0), (1, .int (nI (1))), (2, .int (nI (0)))]) (st' := [.int (nI (b01 (0 ≤ 0 ∧ 0 ≤ 1)))]) (w' := modW 0 S X K) rfl rfl rfl ?_
  refine ev_ifne_b (tgt := 30) dX7_mean_15 (by decide) (fun h15 => ?_) (fun h15 => (by exfalso; omega))
  refine ev_b bX7_mean_30_32 (lv' := [(0, .ref 0), (1, .int (nI (1))), (2, .int (nI (0)))]) (st' := [.int (nI (1)), .ref 0]) (w2 := modW 0 S X K) rfl ?_
  refine ev_callM (Yc := mX7_finds) (st := []) dX7_mean_32 tw_1216 kX7_finds (m_X7_finds_1 S X K hS hM) rfl rfl rfl rfl (by decide) (Nat.le_of_ble_eq_true rfl) (Nat.le_refl _) (Nat.le_refl _) (fun r w' h => by obtain ⟨-, wo, ta, rfl, -⟩ := h; exact mod_eq) ?_
  rintro _ _ ⟨rfl, wo, ta, rfl, hT⟩
  refine ev_eq (lv' := [(0, .ref 0), (1, .int (nI (1))), (2, .int (nI (0)))]) (st' := []) (w' := modW 0 S ((X.rf, wo, ta, (owF S), 0, X.sh, X.lt, X.ty, X.pl, X.nu, X.od, X.tt, X.oo, X.on, (wonZ S), (paidZ S), X.li, X.rr, X.rn, X.dr) : ModN) K) rfl rfl rfl ?_
  refine ev_b bX7_mean_35_40 (lv' := [(4, .int (nI (0))), (3, .int (nI (0))), (0, .ref 0), (1, .int (nI (1))), (2, .int (nI (0)))]) (st' := []) (w2 := modW 0 S ((X.rf, wo, ta, (owF S), 0, X.sh, X.lt, X.ty, X.pl, X.nu, X.od, X.tt, X.oo, X.on, (wonZ S), (paidZ S), X.li, X.rr, X.rn, X.dr) : ModN) K) rfl ?_
  have L40 : ∀ (j_ k : Nat), k + j_ = 5 → Ev l E mX7_mean (8) 0 0 (modW 0 S X K) (MP S K (X.lt) (X.ty) (X.rr) (X.rn) (X.rf) (some (.long (lN (frN ((totZ (paidZ S) 31 5).toNat) (cntTo (wonZ S) 5) 0))))) 0 0 40 [(4, .int (nI (k))), (3, .int (nI (cntTo (wonZ S) k))), (0, .ref 0), (1, .int (nI (1))), (2, .int (nI (0)))] [] (modW 0 S ((X.rf, wo, ta, (owF S), 0, X.sh, X.lt, X.ty, X.pl, X.nu, X.od, X.tt, X.oo, X.on, (wonZ S), (paidZ S), X.li, X.rr, X.rn, X.dr) : ModN) K) := by
    intro j_
    induction j_ with
    | zero =>
      intro k hk40  
      replace hk40 : k = 5 := hk40
      subst hk40
      refine ev_b bX7_mean_40_43 (lv' := [(4, .int (nI (5))), (3, .int (nI (cntTo (wonZ S) 5))), (0, .ref 0), (1, .int (nI (1))), (2, .int (nI (0)))]) (st' := [.int (nI (5)), .int (nI (5))]) (w2 := modW 0 S ((X.rf, wo, ta, (owF S), 0, X.sh, X.lt, X.ty, X.pl, X.nu, X.od, X.tt, X.oo, X.on, (wonZ S), (paidZ S), X.li, X.rr, X.rn, X.dr) : ModN) K) rfl ?_
      refine ev_icmp_ge_n (tgt := 70) (by decide) (by decide) dX7_mean_43 (by decide) (fun h43 => ?_) (fun h43 => (by exfalso; omega))
      have hcl := cntTo_le (wonZ S) 5
      have hz0 : cntTo (wonZ S) 5 = 0 → ((totZ (paidZ S) 31 5).toNat) = 0 := fun z => by rw [hz z]; rfl
      refine ev_b bX7_mean_70_75 (lv' := [(4, .int (nI (5))), (3, .int (nI (cntTo (wonZ S) 5))), (0, .ref 0), (1, .int (nI (1))), (2, .int (nI (0)))]) (st' := [.ref 17, .ref 0]) (w2 := modW 0 S ((X.rf, wo, ta, (owF S), 0, X.sh, X.lt, X.ty, X.pl, X.nu, X.od, X.tt, X.oo, X.on, (wonZ S), (paidZ S), X.li, X.rr, X.rn, X.dr) : ModN) K) rfl ?_
      refine ev_callM (Yc := mX7_together) (st := []) dX7_mean_75 tw_1240 kX7_together (m_X7_together_p S ((X.rf, wo, ta, (owF S), 0, X.sh, X.lt, X.ty, X.pl, X.nu, X.od, X.tt, X.oo, X.on, (wonZ S), (paidZ S), X.li, X.rr, X.rn, X.dr) : ModN) K) rfl rfl rfl rfl (by decide) (Nat.le_of_ble_eq_true rfl) (Nat.le_refl _) (Nat.le_refl _) (fun r w' h => by obtain ⟨-, rfl⟩ := h; exact mod_eq) ?_
      rintro _ _ ⟨rfl, rfl⟩
      refine ev_eq (lv' := [(4, .int (nI (5))), (3, .int (nI (cntTo (wonZ S) 5))), (0, .ref 0), (1, .int (nI (1))), (2, .int (nI (0)))]) (st' := [.int (zI (totZ (paidZ S) 31 5))]) (w' := modW 0 S ((X.rf, wo, ta, (owF S), 0, X.sh, X.lt, X.ty, X.pl, X.nu, X.od, X.tt, X.oo, X.on, (wonZ S), (paidZ S), X.li, X.rr, X.rn, X.dr) : ModN) K) rfl rfl rfl ?_
      refine ev_top (y := (nI ((totZ (paidZ S) 31 5).toNat))) (by rw [show totZ (paidZ S) 31 5 = (((totZ (paidZ S) 31 5).toNat : Nat) : Int) from by exact (Int.toNat_of_nonneg hnn.1).symm]; exact zI_nat _) ?_
      refine ev_b bX7_mean_78_79 (lv' := [(4, .int (nI (5))), (3, .int (nI (cntTo (wonZ S) 5))), (0, .ref 0), (1, .int (nI (1))), (2, .int (nI (0)))]) (st' := [.long (Int32.toInt64 ((nI ((totZ (paidZ S) 31 5).toNat))))]) (w2 := modW 0 S ((X.rf, wo, ta, (owF S), 0, X.sh, X.lt, X.ty, X.pl, X.nu, X.od, X.tt, X.oo, X.on, (wonZ S), (paidZ S), X.li, X.rr, X.rn, X.dr) : ModN) K) rfl ?_
      refine ev_topL (y := lN ((totZ (paidZ S) 31 5).toNat)) (by exact nI_lN (by omega)) ?_
      refine ev_b bX7_mean_79_81 (lv' := [(4, .int (nI (5))), (3, .int (nI (cntTo (wonZ S) 5))), (0, .ref 0), (1, .int (nI (1))), (2, .int (nI (0)))]) (st' := [.int (nI (cntTo (wonZ S) 5)), .int (nI (1)), .long (lN ((totZ (paidZ S) 31 5).toNat))]) (w2 := modW 0 S ((X.rf, wo, ta, (owF S), 0, X.sh, X.lt, X.ty, X.pl, X.nu, X.od, X.tt, X.oo, X.on, (wonZ S), (paidZ S), X.li, X.rr, X.rn, X.dr) : ModN) K) rfl ?_
      refine ev_max dX7_mean_81 tw_1187 tw_655 tw_15 tw_656 (by decide) (Nat.le_of_ble_eq_true rfl) (Nat.le_refl _) (Nat.le_refl _) ?_
      refine ev_top (n_max (by decide) (by omega)) ?_
      refine ev_b bX7_mean_84_85 (lv' := [(4, .int (nI (5))), (3, .int (nI (cntTo (wonZ S) 5))), (0, .ref 0), (1, .int (nI (1))), (2, .int (nI (0)))]) (st' := [.long (Int32.toInt64 ((nI (max 1 (cntTo (wonZ S) 5))))), .long (lN ((totZ (paidZ S) 31 5).toNat))]) (w2 := modW 0 S ((X.rf, wo, ta, (owF S), 0, X.sh, X.lt, X.ty, X.pl, X.nu, X.od, X.tt, X.oo, X.on, (wonZ S), (paidZ S), X.li, X.rr, X.rn, X.dr) : ModN) K) rfl ?_
      refine ev_topL (y := lN (max 1 (cntTo (wonZ S) 5))) (by exact nI_lN (by omega)) ?_
      refine ev_b bX7_mean_85_86 (lv' := [(4, .int (nI (5))), (3, .int (nI (cntTo (wonZ S) 5))), (0, .ref 0), (1, .int (nI (1))), (2, .int (nI (0)))]) (st' := [.int (nI (0)), .long (lN (max 1 (cntTo (wonZ S) 5))), .long (lN ((totZ (paidZ S) 31 5).toNat))]) (w2 := modW 0 S ((X.rf, wo, ta, (owF S), 0, X.sh, X.lt, X.ty, X.pl, X.nu, X.od, X.tt, X.oo, X.on, (wonZ S), (paidZ S), X.li, X.rr, X.rn, X.dr) : ModN) K) rfl ?_
      refine ev_callS (Yc := mX7_partOf) [] dX7_mean_86 tw_1287 kX7_partOf (m_X7_partOf_0 ((totZ (paidZ S) 31 5).toNat) (max 1 (cntTo (wonZ S) 5)) (big_lt (by omega)) (big_lt (by omega)) (by omega)) rfl (st := []) rfl (by decide) rfl (by decide) (Nat.le_of_ble_eq_true rfl) (Nat.le_refl _) (Nat.le_refl _) (fun r w' h => by obtain ⟨-, rfl⟩ := h; exact Nat.le_of_ble_eq_true rfl) ?_
      rintro _ _ ⟨rfl, rfl⟩
      refine ev_eq (lv' := [(4, .int (nI (5))), (3, .int (nI (cntTo (wonZ S) 5))), (0, .ref 0), (1, .int (nI (1))), (2, .int (nI (0)))]) (st' := [.long (lN (frN ((totZ (paidZ S) 31 5).toNat) (max 1 (cntTo (wonZ S) 5)) 0))]) (w' := modW 0 S ((X.rf, wo, ta, (owF S), 0, X.sh, X.lt, X.ty, X.pl, X.nu, X.od, X.tt, X.oo, X.on, (wonZ S), (paidZ S), X.li, X.rr, X.rn, X.dr) : ModN) K) rfl rfl rfl ?_
      refine ev_topL (y := lN (frN ((totZ (paidZ S) 31 5).toNat) (cntTo (wonZ S) 5) 0)) (by rw [fr_max hz0 (by decide)]) ?_
      exact ev_lret dX7_mean_89 rfl mod_le (Nat.le_refl _) (Nat.le_refl _) ⟨rfl, _, rfl, mok_fresh hM.1 rfl hT, rfl, rfl, rfl, rfl, rfl⟩
    | succ j_ ih40 =>
      intro k hk40  
      have hlt40 : k < 5 := by omega
      have hwk := wonZ_bnd hS k
      refine ev_b bX7_mean_40_43 (lv' := [(4, .int (nI (k))), (3, .int (nI (cntTo (wonZ S) k))), (0, .ref 0), (1, .int (nI (1))), (2, .int (nI (0)))]) (st' := [.int (nI (5)), .int (nI (k))]) (w2 := modW 0 S ((X.rf, wo, ta, (owF S), 0, X.sh, X.lt, X.ty, X.pl, X.nu, X.od, X.tt, X.oo, X.on, (wonZ S), (paidZ S), X.li, X.rr, X.rn, X.dr) : ModN) K) rfl ?_
      refine ev_icmp_ge_n (tgt := 70) (by omega) (by decide) dX7_mean_43 (by decide) (fun h43 => (by exfalso; omega)) (fun h43 => ?_)
      refine ev_b bX7_mean_46_53 (lv' := [(4, .int (nI (k))), (3, .int (nI (cntTo (wonZ S) k))), (0, .ref 0), (1, .int (nI (1))), (2, .int (nI (0)))]) (st' := [.int (nI (k)), .ref 16, .int (nI (cntTo (wonZ S) k))]) (w2 := modW 0 S ((X.rf, wo, ta, (owF S), 0, X.sh, X.lt, X.ty, X.pl, X.nu, X.od, X.tt, X.oo, X.on, (wonZ S), (paidZ S), X.li, X.rr, X.rn, X.dr) : ModN) K) rfl ?_
      refine ev_iald_z (f := (wonZ S)) dX7_mean_53 rfl (by omega) (by decide) ?_
      refine ev_if_le_z (tgt := 61) (by constructor <;> omega) dX7_mean_54 (by decide) (fun h54 => ?_) (fun h54 => ?_)
      · skip
        refine ev_b bX7_mean_61_62 (lv' := [(4, .int (nI (k))), (3, .int (nI (cntTo (wonZ S) k))), (0, .ref 0), (1, .int (nI (1))), (2, .int (nI (0)))]) (st' := [.int (nI (0)), .int (nI (cntTo (wonZ S) k))]) (w2 := modW 0 S ((X.rf, wo, ta, (owF S), 0, X.sh, X.lt, X.ty, X.pl, X.nu, X.od, X.tt, X.oo, X.on, (wonZ S), (paidZ S), X.li, X.rr, X.rn, X.dr) : ModN) K) rfl ?_
        refine ev_iadd_n dX7_mean_62 ?_
        refine ev_b bX7_mean_63_64 (lv' := [(3, .int (nI ((cntTo (wonZ S) k) + 0))), (4, .int (nI (k))), (0, .ref 0), (1, .int (nI (1))), (2, .int (nI (0)))]) (st' := []) (w2 := modW 0 S ((X.rf, wo, ta, (owF S), 0, X.sh, X.lt, X.ty, X.pl, X.nu, X.od, X.tt, X.oo, X.on, (wonZ S), (paidZ S), X.li, X.rr, X.rn, X.dr) : ModN) K) rfl ?_
        refine ev_iinc_n (x := k) (v := 1) dX7_mean_64 rfl (by decide) ?_
        refine ev_eq (lv' := [(4, .int (nI (k + 1))), (3, .int (nI ((cntTo (wonZ S) k) + 0))), (0, .ref 0), (1, .int (nI (1))), (2, .int (nI (0)))]) rfl rfl rfl ?_
        refine ev_b bX7_mean_67_40 (lv' := [(4, .int (nI (k + 1))), (3, .int (nI ((cntTo (wonZ S) k) + 0))), (0, .ref 0), (1, .int (nI (1))), (2, .int (nI (0)))]) (st' := []) (w2 := modW 0 S ((X.rf, wo, ta, (owF S), 0, X.sh, X.lt, X.ty, X.pl, X.nu, X.od, X.tt, X.oo, X.on, (wonZ S), (paidZ S), X.li, X.rr, X.rn, X.dr) : ModN) K) rfl ?_
        rw [show nI (k + 1) = nI ((k + 1)) from congrArg nI (by omega)]
        rw [show nI ((cntTo (wonZ S) k) + 0) = nI (cntTo (wonZ S) (k + 1)) from congrArg nI (by rw [cntTo_s]; first | rw [if_neg (Int.not_lt.mpr h54)] | rw [if_pos (Int.not_le.mp h54)])]
        exact ih40 (k + 1) (by omega) 
      · skip
        refine ev_b bX7_mean_57_62 (lv' := [(4, .int (nI (k))), (3, .int (nI (cntTo (wonZ S) k))), (0, .ref 0), (1, .int (nI (1))), (2, .int (nI (0)))]) (st' := [.int (nI (1)), .int (nI (cntTo (wonZ S) k))]) (w2 := modW 0 S ((X.rf, wo, ta, (owF S), 0, X.sh, X.lt, X.ty, X.pl, X.nu, X.od, X.tt, X.oo, X.on, (wonZ S), (paidZ S), X.li, X.rr, X.rn, X.dr) : ModN) K) rfl ?_
        refine ev_iadd_n dX7_mean_62 ?_
        refine ev_b bX7_mean_63_64 (lv' := [(3, .int (nI ((cntTo (wonZ S) k) + 1))), (4, .int (nI (k))), (0, .ref 0), (1, .int (nI (1))), (2, .int (nI (0)))]) (st' := []) (w2 := modW 0 S ((X.rf, wo, ta, (owF S), 0, X.sh, X.lt, X.ty, X.pl, X.nu, X.od, X.tt, X.oo, X.on, (wonZ S), (paidZ S), X.li, X.rr, X.rn, X.dr) : ModN) K) rfl ?_
        refine ev_iinc_n (x := k) (v := 1) dX7_mean_64 rfl (by decide) ?_
        refine ev_eq (lv' := [(4, .int (nI (k + 1))), (3, .int (nI ((cntTo (wonZ S) k) + 1))), (0, .ref 0), (1, .int (nI (1))), (2, .int (nI (0)))]) rfl rfl rfl ?_
        refine ev_b bX7_mean_67_40 (lv' := [(4, .int (nI (k + 1))), (3, .int (nI ((cntTo (wonZ S) k) + 1))), (0, .ref 0), (1, .int (nI (1))), (2, .int (nI (0)))]) (st' := []) (w2 := modW 0 S ((X.rf, wo, ta, (owF S), 0, X.sh, X.lt, X.ty, X.pl, X.nu, X.od, X.tt, X.oo, X.on, (wonZ S), (paidZ S), X.li, X.rr, X.rn, X.dr) : ModN) K) rfl ?_
        rw [show nI (k + 1) = nI ((k + 1)) from congrArg nI (by omega)]
        rw [show nI ((cntTo (wonZ S) k) + 1) = nI (cntTo (wonZ S) (k + 1)) from congrArg nI (by rw [cntTo_s]; first | rw [if_neg (Int.not_lt.mpr h54)] | rw [if_pos (Int.not_le.mp h54)])]
        exact ih40 (k + 1) (by omega) 
  exact L40 5 0 (by omega) 
set_option maxHeartbeats 4000000 in
set_option maxRecDepth 100000 in
theorem q_mean_w1_1 {l : Launch} {E : XE} (S : SaleN) (X : ModN) (K : Option (Nat → Nat)) (n : Nat) (hS : SaleOK S) (hM : MOK S X) (hn : LiftsTo S n) (hnn : 0 ≤ totZ (paidZ S) 31 5 ∧ totZ (paidZ S) 31 5 ≤ 5000) (hz : cntTo (wonZ S) 5 = 0 → totZ (paidZ S) 31 5 = 0) : MetE l E mX7_mean (8) 0 0 [.ref 0, .int (nI (1)), .int (nI (1))] (modW 0 S X K) (MP S K (X.lt) (X.ty) (X.rr) (X.rn) (X.rf) (some (.long (lN (frN ((totZ (paidZ S) 31 5).toNat) (cntTo (wonZ S) 5) 1))))) := by
  refine MetE.of (by decide +kernel) (Nat.le_of_ble_eq_true rfl) ?_
  have hca := hS.1
  have hpw := pow_ca hS
  have hac := ac_lt hS
  have hshl := shl_le hS
  
  refine ev_eq (lv' := [(0, .ref 0), (1, .int (nI (1))), (2, .int (nI (1)))]) (st' := []) (w' := modW 0 S X K) rfl rfl rfl ?_
  refine ev_b bX7_mean_0_3 (lv' := [(0, .ref 0), (1, .int (nI (1))), (2, .int (nI (1)))]) (st' := [.int (nI (2)), .int (nI (0)), .int (nI (1))]) (w2 := modW 0 S X K) rfl ?_
  refine ev_callS (Yc := mX7_isIn) [] dX7_mean_3 tw_1036 kX7_isIn (m_X7_isIn_n 1 0 2 (by decide) (by decide) (by decide)) rfl (st := []) rfl (by decide) rfl (by decide) (Nat.le_of_ble_eq_true rfl) (Nat.le_refl _) (Nat.le_refl _) (fun r w' h => by obtain ⟨-, rfl⟩ := h; exact Nat.le_of_ble_eq_true rfl) ?_
  rintro _ _ ⟨rfl, rfl⟩
  refine ev_eq (lv' := [(0, .ref 0), (1, .int (nI (1))), (2, .int (nI (1)))]) (st' := [.int (nI (b01 (0 ≤ 1 ∧ 1 ≤ 2)))]) (w' := modW 0 S X K) rfl rfl rfl ?_
  refine ev_ifeq_b (tgt := 18) dX7_mean_6 (by decide) (fun h6 => (by exfalso; omega)) (fun h6 => ?_)
  refine ev_b bX7_mean_9_12 (lv' := [(0, .ref 0), (1, .int (nI (1))), (2, .int (nI (1)))]) (st' := [.int (nI (1)), .int (nI (0)), .int (nI (1))]) (w2 := modW 0 S X K) rfl ?_
  refine ev_callS (Yc := mX7_isIn) [] dX7_mean_12 tw_1036 kX7_isIn (m_X7_isIn_n 1 0 1 (by decide) (by decide) (by decide)) rfl (st := []) rfl (by decide) rfl (by decide) (Nat.le_of_ble_eq_true rfl) (Nat.le_refl _) (Nat.le_refl _) (fun r w' h => by obtain ⟨-, rfl⟩ := h; exact Nat.le_of_ble_eq_true rfl) ?_
  rintro _ _ ⟨rfl, rfl⟩
  refine ev_eq (lv' := [(0, .ref 0), (1, .int (nI (1))), (2, .int (nI (1)))]) (st' := [.int (nI (b01 (0 ≤ 1 ∧ 1 ≤ 1)))]) (w' := modW 0 S X K) rfl rfl rfl ?_
  refine ev_ifne_b (tgt := 30) dX7_mean_15 (by decide) (fun h15 => ?_) (fun h15 => (by exfalso; omega))
  refine ev_b bX7_mean_30_32 (lv' := [(0, .ref 0), (1, .int (nI (1))), (2, .int (nI (1)))]) (st' := [.int (nI (1)), .ref 0]) (w2 := modW 0 S X K) rfl ?_
  refine ev_callM (Yc := mX7_finds) (st := []) dX7_mean_32 tw_1216 kX7_finds (m_X7_finds_1 S X K hS hM) rfl rfl rfl rfl (by decide) (Nat.le_of_ble_eq_true rfl) (Nat.le_refl _) (Nat.le_refl _) (fun r w' h => by obtain ⟨-, wo, ta, rfl, -⟩ := h; exact mod_eq) ?_
  rintro _ _ ⟨rfl, wo, ta, rfl, hT⟩
  refine ev_eq (lv' := [(0, .ref 0), (1, .int (nI (1))), (2, .int (nI (1)))]) (st' := []) (w' := modW 0 S ((X.rf, wo, ta, (owF S), 0, X.sh, X.lt, X.ty, X.pl, X.nu, X.od, X.tt, X.oo, X.on, (wonZ S), (paidZ S), X.li, X.rr, X.rn, X.dr) : ModN) K) rfl rfl rfl ?_
  refine ev_b bX7_mean_35_40 (lv' := [(4, .int (nI (0))), (3, .int (nI (0))), (0, .ref 0), (1, .int (nI (1))), (2, .int (nI (1)))]) (st' := []) (w2 := modW 0 S ((X.rf, wo, ta, (owF S), 0, X.sh, X.lt, X.ty, X.pl, X.nu, X.od, X.tt, X.oo, X.on, (wonZ S), (paidZ S), X.li, X.rr, X.rn, X.dr) : ModN) K) rfl ?_
  have L40 : ∀ (j_ k : Nat), k + j_ = 5 → Ev l E mX7_mean (8) 0 0 (modW 0 S X K) (MP S K (X.lt) (X.ty) (X.rr) (X.rn) (X.rf) (some (.long (lN (frN ((totZ (paidZ S) 31 5).toNat) (cntTo (wonZ S) 5) 1))))) 0 0 40 [(4, .int (nI (k))), (3, .int (nI (cntTo (wonZ S) k))), (0, .ref 0), (1, .int (nI (1))), (2, .int (nI (1)))] [] (modW 0 S ((X.rf, wo, ta, (owF S), 0, X.sh, X.lt, X.ty, X.pl, X.nu, X.od, X.tt, X.oo, X.on, (wonZ S), (paidZ S), X.li, X.rr, X.rn, X.dr) : ModN) K) := by
    intro j_
    induction j_ with
    | zero =>
      intro k hk40  
      replace hk40 : k = 5 := hk40
      subst hk40
      refine ev_b bX7_mean_40_43 (lv' := [(4, .int (nI (5))), (3, .int (nI (cntTo (wonZ S) 5))), (0, .ref 0), (1, .int (nI (1))), (2, .int (nI (1)))]) (st' := [.int (nI (5)), .int (nI (5))]) (w2 := modW 0 S ((X.rf, wo, ta, (owF S), 0, X.sh, X.lt, X.ty, X.pl, X.nu, X.od, X.tt, X.oo, X.on, (wonZ S), (paidZ S), X.li, X.rr, X.rn, X.dr) : ModN) K) rfl ?_
      refine ev_icmp_ge_n (tgt := 70) (by decide) (by decide) dX7_mean_43 (by decide) (fun h43 => ?_) (fun h43 => (by exfalso; omega))
      have hcl := cntTo_le (wonZ S) 5
      have hz0 : cntTo (wonZ S) 5 = 0 → ((totZ (paidZ S) 31 5).toNat) = 0 := fun z => by rw [hz z]; rfl
      refine ev_b bX7_mean_70_75 (lv' := [(4, .int (nI (5))), (3, .int (nI (cntTo (wonZ S) 5))), (0, .ref 0), (1, .int (nI (1))), (2, .int (nI (1)))]) (st' := [.ref 17, .ref 0]) (w2 := modW 0 S ((X.rf, wo, ta, (owF S), 0, X.sh, X.lt, X.ty, X.pl, X.nu, X.od, X.tt, X.oo, X.on, (wonZ S), (paidZ S), X.li, X.rr, X.rn, X.dr) : ModN) K) rfl ?_
      refine ev_callM (Yc := mX7_together) (st := []) dX7_mean_75 tw_1240 kX7_together (m_X7_together_p S ((X.rf, wo, ta, (owF S), 0, X.sh, X.lt, X.ty, X.pl, X.nu, X.od, X.tt, X.oo, X.on, (wonZ S), (paidZ S), X.li, X.rr, X.rn, X.dr) : ModN) K) rfl rfl rfl rfl (by decide) (Nat.le_of_ble_eq_true rfl) (Nat.le_refl _) (Nat.le_refl _) (fun r w' h => by obtain ⟨-, rfl⟩ := h; exact mod_eq) ?_
      rintro _ _ ⟨rfl, rfl⟩
      refine ev_eq (lv' := [(4, .int (nI (5))), (3, .int (nI (cntTo (wonZ S) 5))), (0, .ref 0), (1, .int (nI (1))), (2, .int (nI (1)))]) (st' := [.int (zI (totZ (paidZ S) 31 5))]) (w' := modW 0 S ((X.rf, wo, ta, (owF S), 0, X.sh, X.lt, X.ty, X.pl, X.nu, X.od, X.tt, X.oo, X.on, (wonZ S), (paidZ S), X.li, X.rr, X.rn, X.dr) : ModN) K) rfl rfl rfl ?_
      refine ev_top (y := (nI ((totZ (paidZ S) 31 5).toNat))) (by rw [show totZ (paidZ S) 31 5 = (((totZ (paidZ S) 31 5).toNat : Nat) : Int) from by exact (Int.toNat_of_nonneg hnn.1).symm]; exact zI_nat _) ?_
      refine ev_b bX7_mean_78_79 (lv' := [(4, .int (nI (5))), (3, .int (nI (cntTo (wonZ S) 5))), (0, .ref 0), (1, .int (nI (1))), (2, .int (nI (1)))]) (st' := [.long (Int32.toInt64 ((nI ((totZ (paidZ S) 31 5).toNat))))]) (w2 := modW 0 S ((X.rf, wo, ta, (owF S), 0, X.sh, X.lt, X.ty, X.pl, X.nu, X.od, X.tt, X.oo, X.on, (wonZ S), (paidZ S), X.li, X.rr, X.rn, X.dr) : ModN) K) rfl ?_
      refine ev_topL (y := lN ((totZ (paidZ S) 31 5).toNat)) (by exact nI_lN (by omega)) ?_
      refine ev_b bX7_mean_79_81 (lv' := [(4, .int (nI (5))), (3, .int (nI (cntTo (wonZ S) 5))), (0, .ref 0), (1, .int (nI (1))), (2, .int (nI (1)))]) (st' := [.int (nI (cntTo (wonZ S) 5)), .int (nI (1)), .long (lN ((totZ (paidZ S) 31 5).toNat))]) (w2 := modW 0 S ((X.rf, wo, ta, (owF S), 0, X.sh, X.lt, X.ty, X.pl, X.nu, X.od, X.tt, X.oo, X.on, (wonZ S), (paidZ S), X.li, X.rr, X.rn, X.dr) : ModN) K) rfl ?_
      refine ev_max dX7_mean_81 tw_1187 tw_655 tw_15 tw_656 (by decide) (Nat.le_of_ble_eq_true rfl) (Nat.le_refl _) (Nat.le_refl _) ?_
      refine ev_top (n_max (by decide) (by omega)) ?_
      refine ev_b bX7_mean_84_85 (lv' := [(4, .int (nI (5))), (3, .int (nI (cntTo (wonZ S) 5))), (0, .ref 0), (1, .int (nI (1))), (2, .int (nI (1)))]) (st' := [.long (Int32.toInt64 ((nI (max 1 (cntTo (wonZ S) 5))))), .long (lN ((totZ (paidZ S) 31 5).toNat))]) (w2 := modW 0 S ((X.rf, wo, ta, (owF S), 0, X.sh, X.lt, X.ty, X.pl, X.nu, X.od, X.tt, X.oo, X.on, (wonZ S), (paidZ S), X.li, X.rr, X.rn, X.dr) : ModN) K) rfl ?_
      refine ev_topL (y := lN (max 1 (cntTo (wonZ S) 5))) (by exact nI_lN (by omega)) ?_
      refine ev_b bX7_mean_85_86 (lv' := [(4, .int (nI (5))), (3, .int (nI (cntTo (wonZ S) 5))), (0, .ref 0), (1, .int (nI (1))), (2, .int (nI (1)))]) (st' := [.int (nI (1)), .long (lN (max 1 (cntTo (wonZ S) 5))), .long (lN ((totZ (paidZ S) 31 5).toNat))]) (w2 := modW 0 S ((X.rf, wo, ta, (owF S), 0, X.sh, X.lt, X.ty, X.pl, X.nu, X.od, X.tt, X.oo, X.on, (wonZ S), (paidZ S), X.li, X.rr, X.rn, X.dr) : ModN) K) rfl ?_
      refine ev_callS (Yc := mX7_partOf) [] dX7_mean_86 tw_1287 kX7_partOf (m_X7_partOf_1 ((totZ (paidZ S) 31 5).toNat) (max 1 (cntTo (wonZ S) 5)) (big_lt (by omega)) (big_lt (by omega)) (by omega)) rfl (st := []) rfl (by decide) rfl (by decide) (Nat.le_of_ble_eq_true rfl) (Nat.le_refl _) (Nat.le_refl _) (fun r w' h => by obtain ⟨-, rfl⟩ := h; exact Nat.le_of_ble_eq_true rfl) ?_
      rintro _ _ ⟨rfl, rfl⟩
      refine ev_eq (lv' := [(4, .int (nI (5))), (3, .int (nI (cntTo (wonZ S) 5))), (0, .ref 0), (1, .int (nI (1))), (2, .int (nI (1)))]) (st' := [.long (lN (frN ((totZ (paidZ S) 31 5).toNat) (max 1 (cntTo (wonZ S) 5)) 1))]) (w' := modW 0 S ((X.rf, wo, ta, (owF S), 0, X.sh, X.lt, X.ty, X.pl, X.nu, X.od, X.tt, X.oo, X.on, (wonZ S), (paidZ S), X.li, X.rr, X.rn, X.dr) : ModN) K) rfl rfl rfl ?_
      refine ev_topL (y := lN (frN ((totZ (paidZ S) 31 5).toNat) (cntTo (wonZ S) 5) 1)) (by rw [fr_max hz0 (by decide)]) ?_
      exact ev_lret dX7_mean_89 rfl mod_le (Nat.le_refl _) (Nat.le_refl _) ⟨rfl, _, rfl, mok_fresh hM.1 rfl hT, rfl, rfl, rfl, rfl, rfl⟩
    | succ j_ ih40 =>
      intro k hk40  
      have hlt40 : k < 5 := by omega
      have hwk := wonZ_bnd hS k
      refine ev_b bX7_mean_40_43 (lv' := [(4, .int (nI (k))), (3, .int (nI (cntTo (wonZ S) k))), (0, .ref 0), (1, .int (nI (1))), (2, .int (nI (1)))]) (st' := [.int (nI (5)), .int (nI (k))]) (w2 := modW 0 S ((X.rf, wo, ta, (owF S), 0, X.sh, X.lt, X.ty, X.pl, X.nu, X.od, X.tt, X.oo, X.on, (wonZ S), (paidZ S), X.li, X.rr, X.rn, X.dr) : ModN) K) rfl ?_
      refine ev_icmp_ge_n (tgt := 70) (by omega) (by decide) dX7_mean_43 (by decide) (fun h43 => (by exfalso; omega)) (fun h43 => ?_)
      refine ev_b bX7_mean_46_53 (lv' := [(4, .int (nI (k))), (3, .int (nI (cntTo (wonZ S) k))), (0, .ref 0), (1, .int (nI (1))), (2, .int (nI (1)))]) (st' := [.int (nI (k)), .ref 16, .int (nI (cntTo (wonZ S) k))]) (w2 := modW 0 S ((X.rf, wo, ta, (owF S), 0, X.sh, X.lt, X.ty, X.pl, X.nu, X.od, X.tt, X.oo, X.on, (wonZ S), (paidZ S), X.li, X.rr, X.rn, X.dr) : ModN) K) rfl ?_
      refine ev_iald_z (f := (wonZ S)) dX7_mean_53 rfl (by omega) (by decide) ?_
      refine ev_if_le_z (tgt := 61) (by constructor <;> omega) dX7_mean_54 (by decide) (fun h54 => ?_) (fun h54 => ?_)
      · skip
        refine ev_b bX7_mean_61_62 (lv' := [(4, .int (nI (k))), (3, .int (nI (cntTo (wonZ S) k))), (0, .ref 0), (1, .int (nI (1))), (2, .int (nI (1)))]) (st' := [.int (nI (0)), .int (nI (cntTo (wonZ S) k))]) (w2 := modW 0 S ((X.rf, wo, ta, (owF S), 0, X.sh, X.lt, X.ty, X.pl, X.nu, X.od, X.tt, X.oo, X.on, (wonZ S), (paidZ S), X.li, X.rr, X.rn, X.dr) : ModN) K) rfl ?_
        refine ev_iadd_n dX7_mean_62 ?_
        refine ev_b bX7_mean_63_64 (lv' := [(3, .int (nI ((cntTo (wonZ S) k) + 0))), (4, .int (nI (k))), (0, .ref 0), (1, .int (nI (1))), (2, .int (nI (1)))]) (st' := []) (w2 := modW 0 S ((X.rf, wo, ta, (owF S), 0, X.sh, X.lt, X.ty, X.pl, X.nu, X.od, X.tt, X.oo, X.on, (wonZ S), (paidZ S), X.li, X.rr, X.rn, X.dr) : ModN) K) rfl ?_
        refine ev_iinc_n (x := k) (v := 1) dX7_mean_64 rfl (by decide) ?_
        refine ev_eq (lv' := [(4, .int (nI (k + 1))), (3, .int (nI ((cntTo (wonZ S) k) + 0))), (0, .ref 0), (1, .int (nI (1))), (2, .int (nI (1)))]) rfl rfl rfl ?_
        refine ev_b bX7_mean_67_40 (lv' := [(4, .int (nI (k + 1))), (3, .int (nI ((cntTo (wonZ S) k) + 0))), (0, .ref 0), (1, .int (nI (1))), (2, .int (nI (1)))]) (st' := []) (w2 := modW 0 S ((X.rf, wo, ta, (owF S), 0, X.sh, X.lt, X.ty, X.pl, X.nu, X.od, X.tt, X.oo, X.on, (wonZ S), (paidZ S), X.li, X.rr, X.rn, X.dr) : ModN) K) rfl ?_
        rw [show nI (k + 1) = nI ((k + 1)) from congrArg nI (by omega)]
        rw [show nI ((cntTo (wonZ S) k) + 0) = nI (cntTo (wonZ S) (k + 1)) from congrArg nI (by rw [cntTo_s]; first | rw [if_neg (Int.not_lt.mpr h54)] | rw [if_pos (Int.not_le.mp h54)])]
        exact ih40 (k + 1) (by omega) 
      · skip
        refine ev_b bX7_mean_57_62 (lv' := [(4, .int (nI (k))), (3, .int (nI (cntTo (wonZ S) k))), (0, .ref 0), (1, .int (nI (1))), (2, .int (nI (1)))]) (st' := [.int (nI (1)), .int (nI (cntTo (wonZ S) k))]) (w2 := modW 0 S ((X.rf, wo, ta, (owF S), 0, X.sh, X.lt, X.ty, X.pl, X.nu, X.od, X.tt, X.oo, X.on, (wonZ S), (paidZ S), X.li, X.rr, X.rn, X.dr) : ModN) K) rfl ?_
        refine ev_iadd_n dX7_mean_62 ?_
        refine ev_b bX7_mean_63_64 (lv' := [(3, .int (nI ((cntTo (wonZ S) k) + 1))), (4, .int (nI (k))), (0, .ref 0), (1, .int (nI (1))), (2, .int (nI (1)))]) (st' := []) (w2 := modW 0 S ((X.rf, wo, ta, (owF S), 0, X.sh, X.lt, X.ty, X.pl, X.nu, X.od, X.tt, X.oo, X.on, (wonZ S), (paidZ S), X.li, X.rr, X.rn, X.dr) : ModN) K) rfl ?_
        refine ev_iinc_n (x := k) (v := 1) dX7_mean_64 rfl (by decide) ?_
        refine ev_eq (lv' := [(4, .int (nI (k + 1))), (3, .int (nI ((cntTo (wonZ S) k) + 1))), (0, .ref 0), (1, .int (nI (1))), (2, .int (nI (1)))]) rfl rfl rfl ?_
        refine ev_b bX7_mean_67_40 (lv' := [(4, .int (nI (k + 1))), (3, .int (nI ((cntTo (wonZ S) k) + 1))), (0, .ref 0), (1, .int (nI (1))), (2, .int (nI (1)))]) (st' := []) (w2 := modW 0 S ((X.rf, wo, ta, (owF S), 0, X.sh, X.lt, X.ty, X.pl, X.nu, X.od, X.tt, X.oo, X.on, (wonZ S), (paidZ S), X.li, X.rr, X.rn, X.dr) : ModN) K) rfl ?_
        rw [show nI (k + 1) = nI ((k + 1)) from congrArg nI (by omega)]
        rw [show nI ((cntTo (wonZ S) k) + 1) = nI (cntTo (wonZ S) (k + 1)) from congrArg nI (by rw [cntTo_s]; first | rw [if_neg (Int.not_lt.mpr h54)] | rw [if_pos (Int.not_le.mp h54)])]
        exact ih40 (k + 1) (by omega) 
  exact L40 5 0 (by omega) 
set_option maxHeartbeats 4000000 in
set_option maxRecDepth 100000 in
theorem q_mean_w2_0 {l : Launch} {E : XE} (S : SaleN) (X : ModN) (K : Option (Nat → Nat)) (n : Nat) (hS : SaleOK S) (hM : MOK S X) (hn : LiftsTo S n) (hnn : 0 ≤ totZ (itS S n) 31 5 ∧ totZ (itS S n) 31 5 ≤ 5000) (hz : cntTo (wonZ S) 5 = 0 → totZ (itS S n) 31 5 = 0) : MetE l E mX7_mean (9) 0 0 [.ref 0, .int (nI (2)), .int (nI (0))] (modW 0 S X K) (MP S K (X.lt) (X.ty) (X.rr) (X.rn) (X.rf) (some (.long (lN (frN ((totZ (itS S n) 31 5).toNat) (cntTo (wonZ S) 5) 0))))) := by
  refine MetE.of (by decide +kernel) (Nat.le_of_ble_eq_true rfl) ?_
  have hca := hS.1
  have hpw := pow_ca hS
  have hac := ac_lt hS
  have hshl := shl_le hS
  
  refine ev_eq (lv' := [(0, .ref 0), (1, .int (nI (2))), (2, .int (nI (0)))]) (st' := []) (w' := modW 0 S X K) rfl rfl rfl ?_
  refine ev_b bX7_mean_0_3 (lv' := [(0, .ref 0), (1, .int (nI (2))), (2, .int (nI (0)))]) (st' := [.int (nI (2)), .int (nI (0)), .int (nI (2))]) (w2 := modW 0 S X K) rfl ?_
  refine ev_callS (Yc := mX7_isIn) [] dX7_mean_3 tw_1036 kX7_isIn (m_X7_isIn_n 2 0 2 (by decide) (by decide) (by decide)) rfl (st := []) rfl (by decide) rfl (by decide) (Nat.le_of_ble_eq_true rfl) (Nat.le_refl _) (Nat.le_refl _) (fun r w' h => by obtain ⟨-, rfl⟩ := h; exact Nat.le_of_ble_eq_true rfl) ?_
  rintro _ _ ⟨rfl, rfl⟩
  refine ev_eq (lv' := [(0, .ref 0), (1, .int (nI (2))), (2, .int (nI (0)))]) (st' := [.int (nI (b01 (0 ≤ 2 ∧ 2 ≤ 2)))]) (w' := modW 0 S X K) rfl rfl rfl ?_
  refine ev_ifeq_b (tgt := 18) dX7_mean_6 (by decide) (fun h6 => (by exfalso; omega)) (fun h6 => ?_)
  refine ev_b bX7_mean_9_12 (lv' := [(0, .ref 0), (1, .int (nI (2))), (2, .int (nI (0)))]) (st' := [.int (nI (1)), .int (nI (0)), .int (nI (0))]) (w2 := modW 0 S X K) rfl ?_
  refine ev_callS (Yc := mX7_isIn) [] dX7_mean_12 tw_1036 kX7_isIn (m_X7_isIn_n 0 0 1 (by decide) (by decide) (by decide)) rfl (st := []) rfl (by decide) rfl (by decide) (Nat.le_of_ble_eq_true rfl) (Nat.le_refl _) (Nat.le_refl _) (fun r w' h => by obtain ⟨-, rfl⟩ := h; exact Nat.le_of_ble_eq_true rfl) ?_
  rintro _ _ ⟨rfl, rfl⟩
  refine ev_eq (lv' := [(0, .ref 0), (1, .int (nI (2))), (2, .int (nI (0)))]) (st' := [.int (nI (b01 (0 ≤ 0 ∧ 0 ≤ 1)))]) (w' := modW 0 S X K) rfl rfl rfl ?_
  refine ev_ifne_b (tgt := 30) dX7_mean_15 (by decide) (fun h15 => ?_) (fun h15 => (by exfalso; omega))
  refine ev_b bX7_mean_30_32 (lv' := [(0, .ref 0), (1, .int (nI (2))), (2, .int (nI (0)))]) (st' := [.int (nI (2)), .ref 0]) (w2 := modW 0 S X K) rfl ?_
  refine ev_callM (Yc := mX7_finds) (st := []) dX7_mean_32 tw_1216 kX7_finds (m_X7_finds_2 S X K n hS hM hn) rfl rfl rfl rfl (by decide) (Nat.le_of_ble_eq_true rfl) (Nat.le_refl _) (Nat.le_refl _) (fun r w' h => by obtain ⟨-, wo, ta, rfl, -⟩ := h; exact mod_eq) ?_
  rintro _ _ ⟨rfl, wo, ta, rfl, hT⟩
  refine ev_eq (lv' := [(0, .ref 0), (1, .int (nI (2))), (2, .int (nI (0)))]) (st' := []) (w' := modW 0 S ((X.rf, wo, ta, (owF S), 0, X.sh, X.lt, X.ty, X.pl, X.nu, X.od, X.tt, X.oo, X.on, (wonZ S), (itS S n), n, X.rr, X.rn, X.dr) : ModN) K) rfl rfl rfl ?_
  refine ev_b bX7_mean_35_40 (lv' := [(4, .int (nI (0))), (3, .int (nI (0))), (0, .ref 0), (1, .int (nI (2))), (2, .int (nI (0)))]) (st' := []) (w2 := modW 0 S ((X.rf, wo, ta, (owF S), 0, X.sh, X.lt, X.ty, X.pl, X.nu, X.od, X.tt, X.oo, X.on, (wonZ S), (itS S n), n, X.rr, X.rn, X.dr) : ModN) K) rfl ?_
  have L40 : ∀ (j_ k : Nat), k + j_ = 5 → Ev l E mX7_mean (9) 0 0 (modW 0 S X K) (MP S K (X.lt) (X.ty) (X.rr) (X.rn) (X.rf) (some (.long (lN (frN ((totZ (itS S n) 31 5).toNat) (cntTo (wonZ S) 5) 0))))) 0 0 40 [(4, .int (nI (k))), (3, .int (nI (cntTo (wonZ S) k))), (0, .ref 0), (1, .int (nI (2))), (2, .int (nI (0)))] [] (modW 0 S ((X.rf, wo, ta, (owF S), 0, X.sh, X.lt, X.ty, X.pl, X.nu, X.od, X.tt, X.oo, X.on, (wonZ S), (itS S n), n, X.rr, X.rn, X.dr) : ModN) K) := by
    intro j_
    induction j_ with
    | zero =>
      intro k hk40  
      replace hk40 : k = 5 := hk40
      subst hk40
      refine ev_b bX7_mean_40_43 (lv' := [(4, .int (nI (5))), (3, .int (nI (cntTo (wonZ S) 5))), (0, .ref 0), (1, .int (nI (2))), (2, .int (nI (0)))]) (st' := [.int (nI (5)), .int (nI (5))]) (w2 := modW 0 S ((X.rf, wo, ta, (owF S), 0, X.sh, X.lt, X.ty, X.pl, X.nu, X.od, X.tt, X.oo, X.on, (wonZ S), (itS S n), n, X.rr, X.rn, X.dr) : ModN) K) rfl ?_
      refine ev_icmp_ge_n (tgt := 70) (by decide) (by decide) dX7_mean_43 (by decide) (fun h43 => ?_) (fun h43 => (by exfalso; omega))
      have hcl := cntTo_le (wonZ S) 5
      have hz0 : cntTo (wonZ S) 5 = 0 → ((totZ (itS S n) 31 5).toNat) = 0 := fun z => by rw [hz z]; rfl
      refine ev_b bX7_mean_70_75 (lv' := [(4, .int (nI (5))), (3, .int (nI (cntTo (wonZ S) 5))), (0, .ref 0), (1, .int (nI (2))), (2, .int (nI (0)))]) (st' := [.ref 17, .ref 0]) (w2 := modW 0 S ((X.rf, wo, ta, (owF S), 0, X.sh, X.lt, X.ty, X.pl, X.nu, X.od, X.tt, X.oo, X.on, (wonZ S), (itS S n), n, X.rr, X.rn, X.dr) : ModN) K) rfl ?_
      refine ev_callM (Yc := mX7_together) (st := []) dX7_mean_75 tw_1240 kX7_together (m_X7_together_p S ((X.rf, wo, ta, (owF S), 0, X.sh, X.lt, X.ty, X.pl, X.nu, X.od, X.tt, X.oo, X.on, (wonZ S), (itS S n), n, X.rr, X.rn, X.dr) : ModN) K) rfl rfl rfl rfl (by decide) (Nat.le_of_ble_eq_true rfl) (Nat.le_refl _) (Nat.le_refl _) (fun r w' h => by obtain ⟨-, rfl⟩ := h; exact mod_eq) ?_
      rintro _ _ ⟨rfl, rfl⟩
      refine ev_eq (lv' := [(4, .int (nI (5))), (3, .int (nI (cntTo (wonZ S) 5))), (0, .ref 0), (1, .int (nI (2))), (2, .int (nI (0)))]) (st' := [.int (zI (totZ (itS S n) 31 5))]) (w' := modW 0 S ((X.rf, wo, ta, (owF S), 0, X.sh, X.lt, X.ty, X.pl, X.nu, X.od, X.tt, X.oo, X.on, (wonZ S), (itS S n), n, X.rr, X.rn, X.dr) : ModN) K) rfl rfl rfl ?_
      refine ev_top (y := (nI ((totZ (itS S n) 31 5).toNat))) (by rw [show totZ (itS S n) 31 5 = (((totZ (itS S n) 31 5).toNat : Nat) : Int) from by exact (Int.toNat_of_nonneg hnn.1).symm]; exact zI_nat _) ?_
      refine ev_b bX7_mean_78_79 (lv' := [(4, .int (nI (5))), (3, .int (nI (cntTo (wonZ S) 5))), (0, .ref 0), (1, .int (nI (2))), (2, .int (nI (0)))]) (st' := [.long (Int32.toInt64 ((nI ((totZ (itS S n) 31 5).toNat))))]) (w2 := modW 0 S ((X.rf, wo, ta, (owF S), 0, X.sh, X.lt, X.ty, X.pl, X.nu, X.od, X.tt, X.oo, X.on, (wonZ S), (itS S n), n, X.rr, X.rn, X.dr) : ModN) K) rfl ?_
      refine ev_topL (y := lN ((totZ (itS S n) 31 5).toNat)) (by exact nI_lN (by omega)) ?_
      refine ev_b bX7_mean_79_81 (lv' := [(4, .int (nI (5))), (3, .int (nI (cntTo (wonZ S) 5))), (0, .ref 0), (1, .int (nI (2))), (2, .int (nI (0)))]) (st' := [.int (nI (cntTo (wonZ S) 5)), .int (nI (1)), .long (lN ((totZ (itS S n) 31 5).toNat))]) (w2 := modW 0 S ((X.rf, wo, ta, (owF S), 0, X.sh, X.lt, X.ty, X.pl, X.nu, X.od, X.tt, X.oo, X.on, (wonZ S), (itS S n), n, X.rr, X.rn, X.dr) : ModN) K) rfl ?_
      refine ev_max dX7_mean_81 tw_1187 tw_655 tw_15 tw_656 (by decide) (Nat.le_of_ble_eq_true rfl) (Nat.le_refl _) (Nat.le_refl _) ?_
      refine ev_top (n_max (by decide) (by omega)) ?_
      refine ev_b bX7_mean_84_85 (lv' := [(4, .int (nI (5))), (3, .int (nI (cntTo (wonZ S) 5))), (0, .ref 0), (1, .int (nI (2))), (2, .int (nI (0)))]) (st' := [.long (Int32.toInt64 ((nI (max 1 (cntTo (wonZ S) 5))))), .long (lN ((totZ (itS S n) 31 5).toNat))]) (w2 := modW 0 S ((X.rf, wo, ta, (owF S), 0, X.sh, X.lt, X.ty, X.pl, X.nu, X.od, X.tt, X.oo, X.on, (wonZ S), (itS S n), n, X.rr, X.rn, X.dr) : ModN) K) rfl ?_
      refine ev_topL (y := lN (max 1 (cntTo (wonZ S) 5))) (by exact nI_lN (by omega)) ?_
      refine ev_b bX7_mean_85_86 (lv' := [(4, .int (nI (5))), (3, .int (nI (cntTo (wonZ S) 5))), (0, .ref 0), (1, .int (nI (2))), (2, .int (nI (0)))]) (st' := [.int (nI (0)), .long (lN (max 1 (cntTo (wonZ S) 5))), .long (lN ((totZ (itS S n) 31 5).toNat))]) (w2 := modW 0 S ((X.rf, wo, ta, (owF S), 0, X.sh, X.lt, X.ty, X.pl, X.nu, X.od, X.tt, X.oo, X.on, (wonZ S), (itS S n), n, X.rr, X.rn, X.dr) : ModN) K) rfl ?_
      refine ev_callS (Yc := mX7_partOf) [] dX7_mean_86 tw_1287 kX7_partOf (m_X7_partOf_0 ((totZ (itS S n) 31 5).toNat) (max 1 (cntTo (wonZ S) 5)) (big_lt (by omega)) (big_lt (by omega)) (by omega)) rfl (st := []) rfl (by decide) rfl (by decide) (Nat.le_of_ble_eq_true rfl) (Nat.le_refl _) (Nat.le_refl _) (fun r w' h => by obtain ⟨-, rfl⟩ := h; exact Nat.le_of_ble_eq_true rfl) ?_
      rintro _ _ ⟨rfl, rfl⟩
      refine ev_eq (lv' := [(4, .int (nI (5))), (3, .int (nI (cntTo (wonZ S) 5))), (0, .ref 0), (1, .int (nI (2))), (2, .int (nI (0)))]) (st' := [.long (lN (frN ((totZ (itS S n) 31 5).toNat) (max 1 (cntTo (wonZ S) 5)) 0))]) (w' := modW 0 S ((X.rf, wo, ta, (owF S), 0, X.sh, X.lt, X.ty, X.pl, X.nu, X.od, X.tt, X.oo, X.on, (wonZ S), (itS S n), n, X.rr, X.rn, X.dr) : ModN) K) rfl rfl rfl ?_
      refine ev_topL (y := lN (frN ((totZ (itS S n) 31 5).toNat) (cntTo (wonZ S) 5) 0)) (by rw [fr_max hz0 (by decide)]) ?_
      exact ev_lret dX7_mean_89 rfl mod_le (Nat.le_refl _) (Nat.le_refl _) ⟨rfl, _, rfl, mok_fresh hM.1 rfl hT, rfl, rfl, rfl, rfl, rfl⟩
    | succ j_ ih40 =>
      intro k hk40  
      have hlt40 : k < 5 := by omega
      have hwk := wonZ_bnd hS k
      refine ev_b bX7_mean_40_43 (lv' := [(4, .int (nI (k))), (3, .int (nI (cntTo (wonZ S) k))), (0, .ref 0), (1, .int (nI (2))), (2, .int (nI (0)))]) (st' := [.int (nI (5)), .int (nI (k))]) (w2 := modW 0 S ((X.rf, wo, ta, (owF S), 0, X.sh, X.lt, X.ty, X.pl, X.nu, X.od, X.tt, X.oo, X.on, (wonZ S), (itS S n), n, X.rr, X.rn, X.dr) : ModN) K) rfl ?_
      refine ev_icmp_ge_n (tgt := 70) (by omega) (by decide) dX7_mean_43 (by decide) (fun h43 => (by exfalso; omega)) (fun h43 => ?_)
      refine ev_b bX7_mean_46_53 (lv' := [(4, .int (nI (k))), (3, .int (nI (cntTo (wonZ S) k))), (0, .ref 0), (1, .int (nI (2))), (2, .int (nI (0)))]) (st' := [.int (nI (k)), .ref 16, .int (nI (cntTo (wonZ S) k))]) (w2 := modW 0 S ((X.rf, wo, ta, (owF S), 0, X.sh, X.lt, X.ty, X.pl, X.nu, X.od, X.tt, X.oo, X.on, (wonZ S), (itS S n), n, X.rr, X.rn, X.dr) : ModN) K) rfl ?_
      refine ev_iald_z (f := (wonZ S)) dX7_mean_53 rfl (by omega) (by decide) ?_
      refine ev_if_le_z (tgt := 61) (by constructor <;> omega) dX7_mean_54 (by decide) (fun h54 => ?_) (fun h54 => ?_)
      · skip
        refine ev_b bX7_mean_61_62 (lv' := [(4, .int (nI (k))), (3, .int (nI (cntTo (wonZ S) k))), (0, .ref 0), (1, .int (nI (2))), (2, .int (nI (0)))]) (st' := [.int (nI (0)), .int (nI (cntTo (wonZ S) k))]) (w2 := modW 0 S ((X.rf, wo, ta, (owF S), 0, X.sh, X.lt, X.ty, X.pl, X.nu, X.od, X.tt, X.oo, X.on, (wonZ S), (itS S n), n, X.rr, X.rn, X.dr) : ModN) K) rfl ?_
        refine ev_iadd_n dX7_mean_62 ?_
        refine ev_b bX7_mean_63_64 (lv' := [(3, .int (nI ((cntTo (wonZ S) k) + 0))), (4, .int (nI (k))), (0, .ref 0), (1, .int (nI (2))), (2, .int (nI (0)))]) (st' := []) (w2 := modW 0 S ((X.rf, wo, ta, (owF S), 0, X.sh, X.lt, X.ty, X.pl, X.nu, X.od, X.tt, X.oo, X.on, (wonZ S), (itS S n), n, X.rr, X.rn, X.dr) : ModN) K) rfl ?_
        refine ev_iinc_n (x := k) (v := 1) dX7_mean_64 rfl (by decide) ?_
        refine ev_eq (lv' := [(4, .int (nI (k + 1))), (3, .int (nI ((cntTo (wonZ S) k) + 0))), (0, .ref 0), (1, .int (nI (2))), (2, .int (nI (0)))]) rfl rfl rfl ?_
        refine ev_b bX7_mean_67_40 (lv' := [(4, .int (nI (k + 1))), (3, .int (nI ((cntTo (wonZ S) k) + 0))), (0, .ref 0), (1, .int (nI (2))), (2, .int (nI (0)))]) (st' := []) (w2 := modW 0 S ((X.rf, wo, ta, (owF S), 0, X.sh, X.lt, X.ty, X.pl, X.nu, X.od, X.tt, X.oo, X.on, (wonZ S), (itS S n), n, X.rr, X.rn, X.dr) : ModN) K) rfl ?_
        rw [show nI (k + 1) = nI ((k + 1)) from congrArg nI (by omega)]
        rw [show nI ((cntTo (wonZ S) k) + 0) = nI (cntTo (wonZ S) (k + 1)) from congrArg nI (by rw [cntTo_s]; first | rw [if_neg (Int.not_lt.mpr h54)] | rw [if_pos (Int.not_le.mp h54)])]
        exact ih40 (k + 1) (by omega) 
      · skip
        refine ev_b bX7_mean_57_62 (lv' := [(4, .int (nI (k))), (3, .int (nI (cntTo (wonZ S) k))), (0, .ref 0), (1, .int (nI (2))), (2, .int (nI (0)))]) (st' := [.int (nI (1)), .int (nI (cntTo (wonZ S) k))]) (w2 := modW 0 S ((X.rf, wo, ta, (owF S), 0, X.sh, X.lt, X.ty, X.pl, X.nu, X.od, X.tt, X.oo, X.on, (wonZ S), (itS S n), n, X.rr, X.rn, X.dr) : ModN) K) rfl ?_
        refine ev_iadd_n dX7_mean_62 ?_
        refine ev_b bX7_mean_63_64 (lv' := [(3, .int (nI ((cntTo (wonZ S) k) + 1))), (4, .int (nI (k))), (0, .ref 0), (1, .int (nI (2))), (2, .int (nI (0)))]) (st' := []) (w2 := modW 0 S ((X.rf, wo, ta, (owF S), 0, X.sh, X.lt, X.ty, X.pl, X.nu, X.od, X.tt, X.oo, X.on, (wonZ S), (itS S n), n, X.rr, X.rn, X.dr) : ModN) K) rfl ?_
        refine ev_iinc_n (x := k) (v := 1) dX7_mean_64 rfl (by decide) ?_
        refine ev_eq (lv' := [(4, .int (nI (k + 1))), (3, .int (nI ((cntTo (wonZ S) k) + 1))), (0, .ref 0), (1, .int (nI (2))), (2, .int (nI (0)))]) rfl rfl rfl ?_
        refine ev_b bX7_mean_67_40 (lv' := [(4, .int (nI (k + 1))), (3, .int (nI ((cntTo (wonZ S) k) + 1))), (0, .ref 0), (1, .int (nI (2))), (2, .int (nI (0)))]) (st' := []) (w2 := modW 0 S ((X.rf, wo, ta, (owF S), 0, X.sh, X.lt, X.ty, X.pl, X.nu, X.od, X.tt, X.oo, X.on, (wonZ S), (itS S n), n, X.rr, X.rn, X.dr) : ModN) K) rfl ?_
        rw [show nI (k + 1) = nI ((k + 1)) from congrArg nI (by omega)]
        rw [show nI ((cntTo (wonZ S) k) + 1) = nI (cntTo (wonZ S) (k + 1)) from congrArg nI (by rw [cntTo_s]; first | rw [if_neg (Int.not_lt.mpr h54)] | rw [if_pos (Int.not_le.mp h54)])]
        exact ih40 (k + 1) (by omega) 
  exact L40 5 0 (by omega) 
set_option maxHeartbeats 4000000 in
set_option maxRecDepth 100000 in
theorem q_mean_w2_1 {l : Launch} {E : XE} (S : SaleN) (X : ModN) (K : Option (Nat → Nat)) (n : Nat) (hS : SaleOK S) (hM : MOK S X) (hn : LiftsTo S n) (hnn : 0 ≤ totZ (itS S n) 31 5 ∧ totZ (itS S n) 31 5 ≤ 5000) (hz : cntTo (wonZ S) 5 = 0 → totZ (itS S n) 31 5 = 0) : MetE l E mX7_mean (9) 0 0 [.ref 0, .int (nI (2)), .int (nI (1))] (modW 0 S X K) (MP S K (X.lt) (X.ty) (X.rr) (X.rn) (X.rf) (some (.long (lN (frN ((totZ (itS S n) 31 5).toNat) (cntTo (wonZ S) 5) 1))))) := by
  refine MetE.of (by decide +kernel) (Nat.le_of_ble_eq_true rfl) ?_
  have hca := hS.1
  have hpw := pow_ca hS
  have hac := ac_lt hS
  have hshl := shl_le hS
  
  refine ev_eq (lv' := [(0, .ref 0), (1, .int (nI (2))), (2, .int (nI (1)))]) (st' := []) (w' := modW 0 S X K) rfl rfl rfl ?_
  refine ev_b bX7_mean_0_3 (lv' := [(0, .ref 0), (1, .int (nI (2))), (2, .int (nI (1)))]) (st' := [.int (nI (2)), .int (nI (0)), .int (nI (2))]) (w2 := modW 0 S X K) rfl ?_
  refine ev_callS (Yc := mX7_isIn) [] dX7_mean_3 tw_1036 kX7_isIn (m_X7_isIn_n 2 0 2 (by decide) (by decide) (by decide)) rfl (st := []) rfl (by decide) rfl (by decide) (Nat.le_of_ble_eq_true rfl) (Nat.le_refl _) (Nat.le_refl _) (fun r w' h => by obtain ⟨-, rfl⟩ := h; exact Nat.le_of_ble_eq_true rfl) ?_
  rintro _ _ ⟨rfl, rfl⟩
  refine ev_eq (lv' := [(0, .ref 0), (1, .int (nI (2))), (2, .int (nI (1)))]) (st' := [.int (nI (b01 (0 ≤ 2 ∧ 2 ≤ 2)))]) (w' := modW 0 S X K) rfl rfl rfl ?_
  refine ev_ifeq_b (tgt := 18) dX7_mean_6 (by decide) (fun h6 => (by exfalso; omega)) (fun h6 => ?_)
  refine ev_b bX7_mean_9_12 (lv' := [(0, .ref 0), (1, .int (nI (2))), (2, .int (nI (1)))]) (st' := [.int (nI (1)), .int (nI (0)), .int (nI (1))]) (w2 := modW 0 S X K) rfl ?_
  refine ev_callS (Yc := mX7_isIn) [] dX7_mean_12 tw_1036 kX7_isIn (m_X7_isIn_n 1 0 1 (by decide) (by decide) (by decide)) rfl (st := []) rfl (by decide) rfl (by decide) (Nat.le_of_ble_eq_true rfl) (Nat.le_refl _) (Nat.le_refl _) (fun r w' h => by obtain ⟨-, rfl⟩ := h; exact Nat.le_of_ble_eq_true rfl) ?_
  rintro _ _ ⟨rfl, rfl⟩
  refine ev_eq (lv' := [(0, .ref 0), (1, .int (nI (2))), (2, .int (nI (1)))]) (st' := [.int (nI (b01 (0 ≤ 1 ∧ 1 ≤ 1)))]) (w' := modW 0 S X K) rfl rfl rfl ?_
  refine ev_ifne_b (tgt := 30) dX7_mean_15 (by decide) (fun h15 => ?_) (fun h15 => (by exfalso; omega))
  refine ev_b bX7_mean_30_32 (lv' := [(0, .ref 0), (1, .int (nI (2))), (2, .int (nI (1)))]) (st' := [.int (nI (2)), .ref 0]) (w2 := modW 0 S X K) rfl ?_
  refine ev_callM (Yc := mX7_finds) (st := []) dX7_mean_32 tw_1216 kX7_finds (m_X7_finds_2 S X K n hS hM hn) rfl rfl rfl rfl (by decide) (Nat.le_of_ble_eq_true rfl) (Nat.le_refl _) (Nat.le_refl _) (fun r w' h => by obtain ⟨-, wo, ta, rfl, -⟩ := h; exact mod_eq) ?_
  rintro _ _ ⟨rfl, wo, ta, rfl, hT⟩
  refine ev_eq (lv' := [(0, .ref 0), (1, .int (nI (2))), (2, .int (nI (1)))]) (st' := []) (w' := modW 0 S ((X.rf, wo, ta, (owF S), 0, X.sh, X.lt, X.ty, X.pl, X.nu, X.od, X.tt, X.oo, X.on, (wonZ S), (itS S n), n, X.rr, X.rn, X.dr) : ModN) K) rfl rfl rfl ?_
  refine ev_b bX7_mean_35_40 (lv' := [(4, .int (nI (0))), (3, .int (nI (0))), (0, .ref 0), (1, .int (nI (2))), (2, .int (nI (1)))]) (st' := []) (w2 := modW 0 S ((X.rf, wo, ta, (owF S), 0, X.sh, X.lt, X.ty, X.pl, X.nu, X.od, X.tt, X.oo, X.on, (wonZ S), (itS S n), n, X.rr, X.rn, X.dr) : ModN) K) rfl ?_
  have L40 : ∀ (j_ k : Nat), k + j_ = 5 → Ev l E mX7_mean (9) 0 0 (modW 0 S X K) (MP S K (X.lt) (X.ty) (X.rr) (X.rn) (X.rf) (some (.long (lN (frN ((totZ (itS S n) 31 5).toNat) (cntTo (wonZ S) 5) 1))))) 0 0 40 [(4, .int (nI (k))), (3, .int (nI (cntTo (wonZ S) k))), (0, .ref 0), (1, .int (nI (2))), (2, .int (nI (1)))] [] (modW 0 S ((X.rf, wo, ta, (owF S), 0, X.sh, X.lt, X.ty, X.pl, X.nu, X.od, X.tt, X.oo, X.on, (wonZ S), (itS S n), n, X.rr, X.rn, X.dr) : ModN) K) := by
    intro j_
    induction j_ with
    | zero =>
      intro k hk40  
      replace hk40 : k = 5 := hk40
      subst hk40
      refine ev_b bX7_mean_40_43 (lv' := [(4, .int (nI (5))), (3, .int (nI (cntTo (wonZ S) 5))), (0, .ref 0), (1, .int (nI (2))), (2, .int (nI (1)))]) (st' := [.int (nI (5)), .int (nI (5))]) (w2 := modW 0 S ((X.rf, wo, ta, (owF S), 0, X.sh, X.lt, X.ty, X.pl, X.nu, X.od, X.tt, X.oo, X.on, (wonZ S), (itS S n), n, X.rr, X.rn, X.dr) : ModN) K) rfl ?_
      refine ev_icmp_ge_n (tgt := 70) (by decide) (by decide) dX7_mean_43 (by decide) (fun h43 => ?_) (fun h43 => (by exfalso; omega))
      have hcl := cntTo_le (wonZ S) 5
      have hz0 : cntTo (wonZ S) 5 = 0 → ((totZ (itS S n) 31 5).toNat) = 0 := fun z => by rw [hz z]; rfl
      refine ev_b bX7_mean_70_75 (lv' := [(4, .int (nI (5))), (3, .int (nI (cntTo (wonZ S) 5))), (0, .ref 0), (1, .int (nI (2))), (2, .int (nI (1)))]) (st' := [.ref 17, .ref 0]) (w2 := modW 0 S ((X.rf, wo, ta, (owF S), 0, X.sh, X.lt, X.ty, X.pl, X.nu, X.od, X.tt, X.oo, X.on, (wonZ S), (itS S n), n, X.rr, X.rn, X.dr) : ModN) K) rfl ?_
      refine ev_callM (Yc := mX7_together) (st := []) dX7_mean_75 tw_1240 kX7_together (m_X7_together_p S ((X.rf, wo, ta, (owF S), 0, X.sh, X.lt, X.ty, X.pl, X.nu, X.od, X.tt, X.oo, X.on, (wonZ S), (itS S n), n, X.rr, X.rn, X.dr) : ModN) K) rfl rfl rfl rfl (by decide) (Nat.le_of_ble_eq_true rfl) (Nat.le_refl _) (Nat.le_refl _) (fun r w' h => by obtain ⟨-, rfl⟩ := h; exact mod_eq) ?_
      rintro _ _ ⟨rfl, rfl⟩
      refine ev_eq (lv' := [(4, .int (nI (5))), (3, .int (nI (cntTo (wonZ S) 5))), (0, .ref 0), (1, .int (nI (2))), (2, .int (nI (1)))]) (st' := [.int (zI (totZ (itS S n) 31 5))]) (w' := modW 0 S ((X.rf, wo, ta, (owF S), 0, X.sh, X.lt, X.ty, X.pl, X.nu, X.od, X.tt, X.oo, X.on, (wonZ S), (itS S n), n, X.rr, X.rn, X.dr) : ModN) K) rfl rfl rfl ?_
      refine ev_top (y := (nI ((totZ (itS S n) 31 5).toNat))) (by rw [show totZ (itS S n) 31 5 = (((totZ (itS S n) 31 5).toNat : Nat) : Int) from by exact (Int.toNat_of_nonneg hnn.1).symm]; exact zI_nat _) ?_
      refine ev_b bX7_mean_78_79 (lv' := [(4, .int (nI (5))), (3, .int (nI (cntTo (wonZ S) 5))), (0, .ref 0), (1, .int (nI (2))), (2, .int (nI (1)))]) (st' := [.long (Int32.toInt64 ((nI ((totZ (itS S n) 31 5).toNat))))]) (w2 := modW 0 S ((X.rf, wo, ta, (owF S), 0, X.sh, X.lt, X.ty, X.pl, X.nu, X.od, X.tt, X.oo, X.on, (wonZ S), (itS S n), n, X.rr, X.rn, X.dr) : ModN) K) rfl ?_
      refine ev_topL (y := lN ((totZ (itS S n) 31 5).toNat)) (by exact nI_lN (by omega)) ?_
      refine ev_b bX7_mean_79_81 (lv' := [(4, .int (nI (5))), (3, .int (nI (cntTo (wonZ S) 5))), (0, .ref 0), (1, .int (nI (2))), (2, .int (nI (1)))]) (st' := [.int (nI (cntTo (wonZ S) 5)), .int (nI (1)), .long (lN ((totZ (itS S n) 31 5).toNat))]) (w2 := modW 0 S ((X.rf, wo, ta, (owF S), 0, X.sh, X.lt, X.ty, X.pl, X.nu, X.od, X.tt, X.oo, X.on, (wonZ S), (itS S n), n, X.rr, X.rn, X.dr) : ModN) K) rfl ?_
      refine ev_max dX7_mean_81 tw_1187 tw_655 tw_15 tw_656 (by decide) (Nat.le_of_ble_eq_true rfl) (Nat.le_refl _) (Nat.le_refl _) ?_
      refine ev_top (n_max (by decide) (by omega)) ?_
      refine ev_b bX7_mean_84_85 (lv' := [(4, .int (nI (5))), (3, .int (nI (cntTo (wonZ S) 5))), (0, .ref 0), (1, .int (nI (2))), (2, .int (nI (1)))]) (st' := [.long (Int32.toInt64 ((nI (max 1 (cntTo (wonZ S) 5))))), .long (lN ((totZ (itS S n) 31 5).toNat))]) (w2 := modW 0 S ((X.rf, wo, ta, (owF S), 0, X.sh, X.lt, X.ty, X.pl, X.nu, X.od, X.tt, X.oo, X.on, (wonZ S), (itS S n), n, X.rr, X.rn, X.dr) : ModN) K) rfl ?_
      refine ev_topL (y := lN (max 1 (cntTo (wonZ S) 5))) (by exact nI_lN (by omega)) ?_
      refine ev_b bX7_mean_85_86 (lv' := [(4, .int (nI (5))), (3, .int (nI (cntTo (wonZ S) 5))), (0, .ref 0), (1, .int (nI (2))), (2, .int (nI (1)))]) (st' := [.int (nI (1)), .long (lN (max 1 (cntTo (wonZ S) 5))), .long (lN ((totZ (itS S n) 31 5).toNat))]) (w2 := modW 0 S ((X.rf, wo, ta, (owF S), 0, X.sh, X.lt, X.ty, X.pl, X.nu, X.od, X.tt, X.oo, X.on, (wonZ S), (itS S n), n, X.rr, X.rn, X.dr) : ModN) K) rfl ?_
      refine ev_callS (Yc := mX7_partOf) [] dX7_mean_86 tw_1287 kX7_partOf (m_X7_partOf_1 ((totZ (itS S n) 31 5).toNat) (max 1 (cntTo (wonZ S) 5)) (big_lt (by omega)) (big_lt (by omega)) (by omega)) rfl (st := []) rfl (by decide) rfl (by decide) (Nat.le_of_ble_eq_true rfl) (Nat.le_refl _) (Nat.le_refl _) (fun r w' h => by obtain ⟨-, rfl⟩ := h; exact Nat.le_of_ble_eq_true rfl) ?_
      rintro _ _ ⟨rfl, rfl⟩
      refine ev_eq (lv' := [(4, .int (nI (5))), (3, .int (nI (cntTo (wonZ S) 5))), (0, .ref 0), (1, .int (nI (2))), (2, .int (nI (1)))]) (st' := [.long (lN (frN ((totZ (itS S n) 31 5).toNat) (max 1 (cntTo (wonZ S) 5)) 1))]) (w' := modW 0 S ((X.rf, wo, ta, (owF S), 0, X.sh, X.lt, X.ty, X.pl, X.nu, X.od, X.tt, X.oo, X.on, (wonZ S), (itS S n), n, X.rr, X.rn, X.dr) : ModN) K) rfl rfl rfl ?_
      refine ev_topL (y := lN (frN ((totZ (itS S n) 31 5).toNat) (cntTo (wonZ S) 5) 1)) (by rw [fr_max hz0 (by decide)]) ?_
      exact ev_lret dX7_mean_89 rfl mod_le (Nat.le_refl _) (Nat.le_refl _) ⟨rfl, _, rfl, mok_fresh hM.1 rfl hT, rfl, rfl, rfl, rfl, rfl⟩
    | succ j_ ih40 =>
      intro k hk40  
      have hlt40 : k < 5 := by omega
      have hwk := wonZ_bnd hS k
      refine ev_b bX7_mean_40_43 (lv' := [(4, .int (nI (k))), (3, .int (nI (cntTo (wonZ S) k))), (0, .ref 0), (1, .int (nI (2))), (2, .int (nI (1)))]) (st' := [.int (nI (5)), .int (nI (k))]) (w2 := modW 0 S ((X.rf, wo, ta, (owF S), 0, X.sh, X.lt, X.ty, X.pl, X.nu, X.od, X.tt, X.oo, X.on, (wonZ S), (itS S n), n, X.rr, X.rn, X.dr) : ModN) K) rfl ?_
      refine ev_icmp_ge_n (tgt := 70) (by omega) (by decide) dX7_mean_43 (by decide) (fun h43 => (by exfalso; omega)) (fun h43 => ?_)
      refine ev_b bX7_mean_46_53 (lv' := [(4, .int (nI (k))), (3, .int (nI (cntTo (wonZ S) k))), (0, .ref 0), (1, .int (nI (2))), (2, .int (nI (1)))]) (st' := [.int (nI (k)), .ref 16, .int (nI (cntTo (wonZ S) k))]) (w2 := modW 0 S ((X.rf, wo, ta, (owF S), 0, X.sh, X.lt, X.ty, X.pl, X.nu, X.od, X.tt, X.oo, X.on, (wonZ S), (itS S n), n, X.rr, X.rn, X.dr) : ModN) K) rfl ?_
      refine ev_iald_z (f := (wonZ S)) dX7_mean_53 rfl (by omega) (by decide) ?_
      refine ev_if_le_z (tgt := 61) (by constructor <;> omega) dX7_mean_54 (by decide) (fun h54 => ?_) (fun h54 => ?_)
      · skip
        refine ev_b bX7_mean_61_62 (lv' := [(4, .int (nI (k))), (3, .int (nI (cntTo (wonZ S) k))), (0, .ref 0), (1, .int (nI (2))), (2, .int (nI (1)))]) (st' := [.int (nI (0)), .int (nI (cntTo (wonZ S) k))]) (w2 := modW 0 S ((X.rf, wo, ta, (owF S), 0, X.sh, X.lt, X.ty, X.pl, X.nu, X.od, X.tt, X.oo, X.on, (wonZ S), (itS S n), n, X.rr, X.rn, X.dr) : ModN) K) rfl ?_
        refine ev_iadd_n dX7_mean_62 ?_
        refine ev_b bX7_mean_63_64 (lv' := [(3, .int (nI ((cntTo (wonZ S) k) + 0))), (4, .int (nI (k))), (0, .ref 0), (1, .int (nI (2))), (2, .int (nI (1)))]) (st' := []) (w2 := modW 0 S ((X.rf, wo, ta, (owF S), 0, X.sh, X.lt, X.ty, X.pl, X.nu, X.od, X.tt, X.oo, X.on, (wonZ S), (itS S n), n, X.rr, X.rn, X.dr) : ModN) K) rfl ?_
        refine ev_iinc_n (x := k) (v := 1) dX7_mean_64 rfl (by decide) ?_
        refine ev_eq (lv' := [(4, .int (nI (k + 1))), (3, .int (nI ((cntTo (wonZ S) k) + 0))), (0, .ref 0), (1, .int (nI (2))), (2, .int (nI (1)))]) rfl rfl rfl ?_
        refine ev_b bX7_mean_67_40 (lv' := [(4, .int (nI (k + 1))), (3, .int (nI ((cntTo (wonZ S) k) + 0))), (0, .ref 0), (1, .int (nI (2))), (2, .int (nI (1)))]) (st' := []) (w2 := modW 0 S ((X.rf, wo, ta, (owF S), 0, X.sh, X.lt, X.ty, X.pl, X.nu, X.od, X.tt, X.oo, X.on, (wonZ S), (itS S n), n, X.rr, X.rn, X.dr) : ModN) K) rfl ?_
        rw [show nI (k + 1) = nI ((k + 1)) from congrArg nI (by omega)]
        rw [show nI ((cntTo (wonZ S) k) + 0) = nI (cntTo (wonZ S) (k + 1)) from congrArg nI (by rw [cntTo_s]; first | rw [if_neg (Int.not_lt.mpr h54)] | rw [if_pos (Int.not_le.mp h54)])]
        exact ih40 (k + 1) (by omega) 
      · skip
        refine ev_b bX7_mean_57_62 (lv' := [(4, .int (nI (k))), (3, .int (nI (cntTo (wonZ S) k))), (0, .ref 0), (1, .int (nI (2))), (2, .int (nI (1)))]) (st' := [.int (nI (1)), .int (nI (cntTo (wonZ S) k))]) (w2 := modW 0 S ((X.rf, wo, ta, (owF S), 0, X.sh, X.lt, X.ty, X.pl, X.nu, X.od, X.tt, X.oo, X.on, (wonZ S), (itS S n), n, X.rr, X.rn, X.dr) : ModN) K) rfl ?_
        refine ev_iadd_n dX7_mean_62 ?_
        refine ev_b bX7_mean_63_64 (lv' := [(3, .int (nI ((cntTo (wonZ S) k) + 1))), (4, .int (nI (k))), (0, .ref 0), (1, .int (nI (2))), (2, .int (nI (1)))]) (st' := []) (w2 := modW 0 S ((X.rf, wo, ta, (owF S), 0, X.sh, X.lt, X.ty, X.pl, X.nu, X.od, X.tt, X.oo, X.on, (wonZ S), (itS S n), n, X.rr, X.rn, X.dr) : ModN) K) rfl ?_
        refine ev_iinc_n (x := k) (v := 1) dX7_mean_64 rfl (by decide) ?_
        refine ev_eq (lv' := [(4, .int (nI (k + 1))), (3, .int (nI ((cntTo (wonZ S) k) + 1))), (0, .ref 0), (1, .int (nI (2))), (2, .int (nI (1)))]) rfl rfl rfl ?_
        refine ev_b bX7_mean_67_40 (lv' := [(4, .int (nI (k + 1))), (3, .int (nI ((cntTo (wonZ S) k) + 1))), (0, .ref 0), (1, .int (nI (2))), (2, .int (nI (1)))]) (st' := []) (w2 := modW 0 S ((X.rf, wo, ta, (owF S), 0, X.sh, X.lt, X.ty, X.pl, X.nu, X.od, X.tt, X.oo, X.on, (wonZ S), (itS S n), n, X.rr, X.rn, X.dr) : ModN) K) rfl ?_
        rw [show nI (k + 1) = nI ((k + 1)) from congrArg nI (by omega)]
        rw [show nI ((cntTo (wonZ S) k) + 1) = nI (cntTo (wonZ S) (k + 1)) from congrArg nI (by rw [cntTo_s]; first | rw [if_neg (Int.not_lt.mpr h54)] | rw [if_pos (Int.not_le.mp h54)])]
        exact ih40 (k + 1) (by omega) 
  exact L40 5 0 (by omega) 
