theorem bX6_missing_56_64 {l : Launch} {E : XE} : Snd l E mX6_missing 56 64 (xs [x_aload 0, x_get 7 3, x_aload 0, x_get 7 0]) := Snd.cons (snd_aload_n (i := 0) dX6_missing_56 rfl) (Snd.cons (snd_get (ci := 7) (k := 3) dX6_missing_57 rfl inX6 (by decide) tw_210) (Snd.cons (snd_aload_n (i := 0) dX6_missing_60 rfl) (Snd.cons (snd_get (ci := 7) (k := 0) dX6_missing_61 rfl inX6 (by decide) tw_207) Snd.nil)))
theorem bX6_missing_67_73 {l : Launch} {E : XE} : Snd l E mX6_missing 67 73 (xs [x_push (.long 0), x_lstore 4, x_push (.int (nI 0)), x_istore 6]) := Snd.cons (snd_lconst (v := 0) dX6_missing_67 (by decide)) (Snd.cons (snd_lstore dX6_missing_68 (by decide)) (Snd.cons (snd_iconst (v := nI 0) dX6_missing_70 (by decide)) (Snd.cons (snd_istore dX6_missing_71 (by decide)) Snd.nil)))
theorem bX6_missing_73_78 {l : Launch} {E : XE} : Snd l E mX6_missing 73 78 (xs [x_iload 6, x_push (.int (nI 1023))]) := Snd.cons (snd_iload dX6_missing_73) (Snd.cons (snd_sipush (v := nI 1023) dX6_missing_75 (by decide)) Snd.nil)
theorem bX6_missing_151_155 {l : Launch} {E : XE} : Snd l E mX6_missing 151 155 (xs [x_lload 4, x_iload 2, x_i2l]) := Snd.cons (snd_lload dX6_missing_151) (Snd.cons (snd_iload_n (i := 2) dX6_missing_153 rfl) (Snd.cons (snd_i2l dX6_missing_154) Snd.nil))
theorem bX6_missing_155_162 {l : Launch} {E : XE} : Snd l E mX6_missing 155 162 (xs [x_aload 0, x_get 7 0, x_get 4 8]) := Snd.cons (snd_aload_n (i := 0) dX6_missing_155 rfl) (Snd.cons (snd_get (ci := 7) (k := 0) dX6_missing_156 rfl inX6 (by decide) tw_207) (Snd.cons (snd_getN (ci := 4) (k := 8) dX6_missing_159 rfl inX3 (by decide) tn_48) Snd.nil))
theorem bX6_missing_168_169 {l : Launch} {E : XE} : Snd l E mX6_missing 168 169 (xs [x_iload 3]) := Snd.cons (snd_iload_n (i := 3) dX6_missing_168 rfl) Snd.nil
theorem bX6_missing_81_92 {l : Launch} {E : XE} : Snd l E mX6_missing 81 92 (xs [x_iload 6, x_aload 0, x_get 7 0, x_get 4 8, x_push (.int (-1)), x_i2 (fun x y => x ^^^ y)]) := Snd.cons (snd_iload dX6_missing_81) (Snd.cons (snd_aload_n (i := 0) dX6_missing_83 rfl) (Snd.cons (snd_get (ci := 7) (k := 0) dX6_missing_84 rfl inX6 (by decide) tw_207) (Snd.cons (snd_getN (ci := 4) (k := 8) dX6_missing_87 rfl inX3 (by decide) tn_48) (Snd.cons (snd_iconst (v := -1) dX6_missing_90 (by decide)) (Snd.cons (snd_ixor dX6_missing_91) Snd.nil)))))
theorem bX6_missing_100_105 {l : Launch} {E : XE} : Snd l E mX6_missing 100 105 (xs [x_push (.int (nI 0)), x_istore 7, x_iload 7]) := Snd.cons (snd_iconst (v := nI 0) dX6_missing_100 (by decide)) (Snd.cons (snd_istore dX6_missing_101 (by decide)) (Snd.cons (snd_iload dX6_missing_103) Snd.nil))
theorem bX6_missing_148_73 {l : Launch} {E : XE} : Snd l E mX6_missing 148 73 (xs [x_id]) := Snd.cons (snd_goto (tgt := 73) dX6_missing_148 (by decide)) Snd.nil
theorem bX6_missing_96_105 {l : Launch} {E : XE} : Snd l E mX6_missing 96 105 (xs [x_push (.int (nI 1)), x_id, x_istore 7, x_iload 7]) := Snd.cons (snd_iconst (v := nI 1) dX6_missing_96 (by decide)) (Snd.cons (snd_goto (tgt := 101) dX6_missing_97 (by decide)) (Snd.cons (snd_istore dX6_missing_101 (by decide)) (Snd.cons (snd_iload dX6_missing_103) Snd.nil)))
theorem bX6_missing_108_114 {l : Launch} {E : XE} : Snd l E mX6_missing 108 114 (xs [x_aload 0, x_get 7 3, x_iload 6]) := Snd.cons (snd_aload_n (i := 0) dX6_missing_108 rfl) (Snd.cons (snd_get (ci := 7) (k := 3) dX6_missing_109 rfl inX6 (by decide) tw_210) (Snd.cons (snd_iload dX6_missing_112) Snd.nil))
theorem bX6_missing_120_121 {l : Launch} {E : XE} : Snd l E mX6_missing 120 121 (xs [x_iload 1]) := Snd.cons (snd_iload_n (i := 1) dX6_missing_120 rfl) Snd.nil
theorem bX6_missing_124_125 {l : Launch} {E : XE} : Snd l E mX6_missing 124 125 (xs [x_push (.int (nI 1))]) := Snd.cons (snd_iconst (v := nI 1) dX6_missing_124 (by decide)) Snd.nil
theorem bX6_missing_128_132 {l : Launch} {E : XE} : Snd l E mX6_missing 128 132 (xs [x_lload 4, x_iload 2, x_push (.int (nI 1))]) := Snd.cons (snd_lload dX6_missing_128) (Snd.cons (snd_iload_n (i := 2) dX6_missing_130 rfl) (Snd.cons (snd_iconst (v := nI 1) dX6_missing_131 (by decide)) Snd.nil))
theorem bX6_missing_133_134 {l : Launch} {E : XE} : Snd l E mX6_missing 133 134 (xs [x_i2l]) := Snd.cons (snd_i2l dX6_missing_133) Snd.nil
theorem bX6_missing_134_136 {l : Launch} {E : XE} : Snd l E mX6_missing 134 136 (xs [x_iload 6]) := Snd.cons (snd_iload dX6_missing_134) Snd.nil
theorem bX6_missing_142_143 {l : Launch} {E : XE} : Snd l E mX6_missing 142 143 (xs [x_l2 (fun x y => x + y)]) := Snd.cons (snd_ladd dX6_missing_142) Snd.nil
theorem bX6_missing_143_145 {l : Launch} {E : XE} : Snd l E mX6_missing 143 145 (xs [x_lstore 4]) := Snd.cons (snd_lstore dX6_missing_143 (by decide)) Snd.nil
set_option maxHeartbeats 4000000 in
set_option maxRecDepth 100000 in
theorem p_missing_w0 {l : Launch} {E : XE} (T : TopN) (S P U : SaleN) (O : OutN) (B : BillN) (Q : SeaN) (C : ScrN) (R : PrtN) (tl rf : Nat → Nat) (b t : Nat) (hS : SaleOK S) (hQ : Q.fd < 2147483648) (hb : b < S.ca) (ht : 2 ≤ t ∧ t ≤ 20) : MetE l E mX6_missing (4) 0 0 [.ref 0, .int (nI (b)), .int (nI (t)), .int (nI (0))] (compW T S P U O B Q C R tl rf) (CP T S P (C.lt) (C.sz) tl rf (some (.long (lN (frN (abTo S b t 1024) (t ^ pop S.ac) 0))))) := by
  refine MetE.of (by decide +kernel) (Nat.le_of_ble_eq_true rfl) ?_
  have hca := hS.1
  have hpw := pow_ca hS
  have hac := ac_lt hS
  
  refine ev_eq (lv' := [(0, .ref 0), (1, .int (nI (b))), (2, .int (nI (t))), (3, .int (nI (0)))]) (st' := []) (w' := compW T S P U O B Q C R tl rf) rfl rfl rfl ?_
  refine ev_b bX6_missing_0_5 (lv' := [(0, .ref 0), (1, .int (nI (b))), (2, .int (nI (t))), (3, .int (nI (0)))]) (st' := [.int (nI (b)), .ref 1]) (w2 := compW T S P U O B Q C R tl rf) rfl ?_
  refine ev_callVN (Yc := mX3_hasBid) [1, 2, 3, 4, 5, 6, 7, 8] dX6_missing_5 tn_444 kX3_hasBid (m_X3_hasBid S b hS (by omega)) rfl (st := []) rfl rfl rfl (by decide) hw_comp__1 (by decide) (Nat.le_of_ble_eq_true rfl) (Nat.le_refl _) (Nat.le_refl _) (fun r w' h => by obtain ⟨-, rfl⟩ := h; exact Nat.le_of_ble_eq_true rfl) ?_
  rintro _ _ ⟨rfl, rfl⟩
  refine ev_eq (lv' := [(0, .ref 0), (1, .int (nI (b))), (2, .int (nI (t))), (3, .int (nI (0)))]) (st' := [.int (nI (b01 (b < S.ca)))]) (w' := compW T S P U O B Q C R tl rf) rfl rfl xp_comp__1 ?_
  refine ev_ifne_b (tgt := 17) dX6_missing_8 (by decide) (fun h8 => ?_) (fun h8 => (by exfalso; omega))
  refine ev_b bX6_missing_17_19 (lv' := [(0, .ref 0), (1, .int (nI (b))), (2, .int (nI (t))), (3, .int (nI (0)))]) (st' := [.int (nI (2)), .int (nI (t))]) (w2 := compW T S P U O B Q C R tl rf) rfl ?_
  refine ev_icmp_ge_n (tgt := 29) (by omega) (by decide) dX6_missing_19 (by decide) (fun h19 => ?_) (fun h19 => (by exfalso; omega))
  refine ev_b bX6_missing_29_32 (lv' := [(0, .ref 0), (1, .int (nI (b))), (2, .int (nI (t))), (3, .int (nI (0)))]) (st' := [.int (nI (20)), .int (nI (t))]) (w2 := compW T S P U O B Q C R tl rf) rfl ?_
  refine ev_icmp_le_n (tgt := 42) (by omega) (by decide) dX6_missing_32 (by decide) (fun h32 => ?_) (fun h32 => (by exfalso; omega))
  refine ev_b bX6_missing_42_43 (lv' := [(0, .ref 0), (1, .int (nI (b))), (2, .int (nI (t))), (3, .int (nI (0)))]) (st' := [.int (nI (0))]) (w2 := compW T S P U O B Q C R tl rf) rfl ?_
  refine ev_callS (Yc := mX6_isEither) [] dX6_missing_43 tw_667 kX6_isEither m_X6_isEither_0 rfl (st := []) rfl (by decide) rfl (by decide) (Nat.le_of_ble_eq_true rfl) (Nat.le_refl _) (Nat.le_refl _) (fun r w' h => by obtain ⟨-, rfl⟩ := h; exact Nat.le_of_ble_eq_true rfl) ?_
  rintro _ _ ⟨rfl, rfl⟩
  refine ev_eq (lv' := [(0, .ref 0), (1, .int (nI (b))), (2, .int (nI (t))), (3, .int (nI (0)))]) (st' := [.int (nI (1))]) (w' := compW T S P U O B Q C R tl rf) rfl rfl rfl ?_
  refine ev_if_ne_n (tgt := 56) (by decide) dX6_missing_46 (by decide) (fun h46 => ?_) (fun h46 => (by exfalso; omega))
  refine ev_b bX6_missing_56_64 (lv' := [(0, .ref 0), (1, .int (nI (b))), (2, .int (nI (t))), (3, .int (nI (0)))]) (st' := [.ref 1, .ref 25]) (w2 := compW T S P U O B Q C R tl rf) rfl ?_
  refine ev_callVN (Yc := mX1_gather) [25, 26, 27, 28, 29, 1, 2, 3, 4, 5, 6, 7, 8] dX6_missing_64 tn_497 kX1_gather (m_X1_gather O S hS) rfl (st := []) rfl rfl rfl (by decide) hw_comp__25_1 (by decide) (Nat.le_of_ble_eq_true rfl) (Nat.le_refl _) (Nat.le_refl _) (fun r w' h => by obtain ⟨-, O', rfl, -⟩ := h; exact Nat.le_of_ble_eq_true rfl) ?_
  rintro _ _ ⟨rfl, O1, rfl, hK1⟩
  refine ev_eq (lv' := [(0, .ref 0), (1, .int (nI (b))), (2, .int (nI (t))), (3, .int (nI (0)))]) (st' := []) (w' := compW T S P U O1 B Q C R tl rf) rfl rfl xp_comp__25_1 ?_
  refine ev_b bX6_missing_67_73 (lv' := [(6, .int (nI (0))), (4, .long (0)), (0, .ref 0), (1, .int (nI (b))), (2, .int (nI (t))), (3, .int (nI (0)))]) (st' := []) (w2 := compW T S P U O1 B Q C R tl rf) rfl ?_
  have L73 : ∀ (j_ k : Nat), k + j_ = 1024 → Ev l E mX6_missing (4) 0 0 (compW T S P U O B Q C R tl rf) (CP T S P (C.lt) (C.sz) tl rf (some (.long (lN (frN (abTo S b t 1024) (t ^ pop S.ac) 0))))) 0 0 73 [(6, .int (nI (k))), (4, .long (lN (abTo S b t k))), (0, .ref 0), (1, .int (nI (b))), (2, .int (nI (t))), (3, .int (nI (0)))] [] (compW T S P U O1 B Q C R tl rf) := by
    intro j_
    induction j_ with
    | zero =>
      intro k hk73  
      replace hk73 : k = 1024 := hk73
      subst hk73
      refine ev_b bX6_missing_73_78 (lv' := [(6, .int (nI (1024))), (4, .long (lN (abTo S b t 1024))), (0, .ref 0), (1, .int (nI (b))), (2, .int (nI (t))), (3, .int (nI (0)))]) (st' := [.int (nI (1023)), .int (nI (1024))]) (w2 := compW T S P U O1 B Q C R tl rf) rfl ?_
      refine ev_icmp_gt_n (tgt := 151) (by decide) (by decide) dX6_missing_78 (by decide) (fun h78 => ?_) (fun h78 => (by exfalso; omega))
      refine ev_b bX6_missing_151_155 (lv' := [(6, .int (nI (1024))), (4, .long (lN (abTo S b t 1024))), (0, .ref 0), (1, .int (nI (b))), (2, .int (nI (t))), (3, .int (nI (0)))]) (st' := [.long (Int32.toInt64 ((nI (t)))), .long (lN (abTo S b t 1024))]) (w2 := compW T S P U O1 B Q C R tl rf) rfl ?_
      refine ev_topL (y := lN t) (by exact nI_lN (by omega)) ?_
      refine ev_b bX6_missing_155_162 (lv' := [(6, .int (nI (1024))), (4, .long (lN (abTo S b t 1024))), (0, .ref 0), (1, .int (nI (b))), (2, .int (nI (t))), (3, .int (nI (0)))]) (st' := [.int (nI (S.ac)), .long (lN t), .long (lN (abTo S b t 1024))]) (w2 := compW T S P U O1 B Q C R tl rf) rfl ?_
      refine ev_callS (Yc := mJ6_bitCount_0f7a4) [] dX6_missing_162 tw_696 kJ6_bitCount_0f7a4 (m_bitCount S.ac (by have := hS.2.1; omega)) rfl (st := [.long (lN t), .long (lN (abTo S b t 1024))]) rfl (by decide) rfl (by decide) (Nat.le_of_ble_eq_true rfl) (Nat.le_refl _) (Nat.le_refl _) (fun r w' h => by obtain ⟨-, rfl⟩ := h; exact Nat.le_of_ble_eq_true rfl) ?_
      rintro _ _ ⟨rfl, rfl⟩
      refine ev_eq (lv' := [(6, .int (nI (1024))), (4, .long (lN (abTo S b t 1024))), (0, .ref 0), (1, .int (nI (b))), (2, .int (nI (t))), (3, .int (nI (0)))]) (st' := [.int (nI (pop S.ac)), .long (lN t), .long (lN (abTo S b t 1024))]) (w' := compW T S P U O1 B Q C R tl rf) rfl rfl rfl ?_
      have hpac := pop_le S.ac
      refine ev_callS (Yc := mX6_power) [] dX6_missing_165 tw_805 kX6_power (m_X6_power (lN t) (pop S.ac) (by omega)) rfl (st := [.long (lN (abTo S b t 1024))]) rfl (by decide) rfl (by decide) (Nat.le_of_ble_eq_true rfl) (Nat.le_refl _) (Nat.le_refl _) (fun r w' h => by obtain ⟨-, rfl⟩ := h; exact Nat.le_of_ble_eq_true rfl) ?_
      rintro _ _ ⟨rfl, rfl⟩
      refine ev_eq (lv' := [(6, .int (nI (1024))), (4, .long (lN (abTo S b t 1024))), (0, .ref 0), (1, .int (nI (b))), (2, .int (nI (t))), (3, .int (nI (0)))]) (st' := [.long (powL (lN t) (pop S.ac)), .long (lN (abTo S b t 1024))]) (w' := compW T S P U O1 B Q C R tl rf) rfl rfl rfl ?_
      refine ev_topL (y := lN (t ^ pop S.ac)) (by exact powL_n _ _) ?_
      refine ev_b bX6_missing_168_169 (lv' := [(6, .int (nI (1024))), (4, .long (lN (abTo S b t 1024))), (0, .ref 0), (1, .int (nI (b))), (2, .int (nI (t))), (3, .int (nI (0)))]) (st' := [.int (nI (0)), .long (lN (t ^ pop S.ac)), .long (lN (abTo S b t 1024))]) (w2 := compW T S P U O1 B Q C R tl rf) rfl ?_
      refine ev_callS (Yc := mX6_fraction) [] dX6_missing_169 tw_808 kX6_fraction (m_X6_fraction_0 (abTo S b t 1024) (t ^ pop S.ac) (ab_big ht.2) (pw_big ht.2 (pop_le S.ac))) rfl (st := []) rfl (by decide) rfl (by decide) (Nat.le_of_ble_eq_true rfl) (Nat.le_refl _) (Nat.le_refl _) (fun r w' h => by obtain ⟨-, rfl⟩ := h; exact Nat.le_of_ble_eq_true rfl) ?_
      rintro _ _ ⟨rfl, rfl⟩
      refine ev_eq (lv' := [(6, .int (nI (1024))), (4, .long (lN (abTo S b t 1024))), (0, .ref 0), (1, .int (nI (b))), (2, .int (nI (t))), (3, .int (nI (0)))]) (st' := [.long (lN (frN (abTo S b t 1024) (t ^ pop S.ac) 0))]) (w' := compW T S P U O1 B Q C R tl rf) rfl rfl rfl ?_
      exact ev_lret dX6_missing_172 rfl (Nat.le_refl 49) (Nat.le_refl _) (Nat.le_refl _) ⟨rfl, _, _, _, _, _, _, rfl, hQ, rfl, rfl⟩
    | succ j_ ih73 =>
      intro k hk73  
      have hlt73 : k < 1024 := by omega
      refine ev_b bX6_missing_73_78 (lv' := [(6, .int (nI (k))), (4, .long (lN (abTo S b t k))), (0, .ref 0), (1, .int (nI (b))), (2, .int (nI (t))), (3, .int (nI (0)))]) (st' := [.int (nI (1023)), .int (nI (k))]) (w2 := compW T S P U O1 B Q C R tl rf) rfl ?_
      refine ev_icmp_gt_n (tgt := 151) (by omega) (by decide) dX6_missing_78 (by decide) (fun h78 => (by exfalso; omega)) (fun h78 => ?_)
      refine ev_b bX6_missing_81_92 (lv' := [(6, .int (nI (k))), (4, .long (lN (abTo S b t k))), (0, .ref 0), (1, .int (nI (b))), (2, .int (nI (t))), (3, .int (nI (0)))]) (st' := [.int (nI (S.ac) ^^^ (-1)), .int (nI (k))]) (w2 := compW T S P U O1 B Q C R tl rf) rfl ?_
      refine ev_iandn_n dX6_missing_92 ?_
      refine ev_if_ne_n (tgt := 100) (by exact Nat.lt_of_le_of_lt (xor_and_le _ _) (by omega)) dX6_missing_93 (by decide) (fun h93 => ?_) (fun h93 => ?_)
      · skip
        have hrs : abTo S b t (k + 1) = abTo S b t k := by rw [abTo_s, if_neg (fun z => h93 z.1), Nat.add_zero]
        refine ev_b bX6_missing_100_105 (lv' := [(7, .int (nI (0))), (6, .int (nI (k))), (4, .long (lN (abTo S b t k))), (0, .ref 0), (1, .int (nI (b))), (2, .int (nI (t))), (3, .int (nI (0)))]) (st' := [.int (nI (0))]) (w2 := compW T S P U O1 B Q C R tl rf) rfl ?_
        refine ev_if_eq_n (tgt := 145) (by decide) dX6_missing_105 (by decide) (fun h105 => ?_) (fun h105 => (by exfalso; omega))
        refine ev_iinc_n (x := k) (v := 1) dX6_missing_145 rfl (by decide) ?_
        refine ev_eq (lv' := [(6, .int (nI (k + 1))), (7, .int (nI (0))), (4, .long (lN (abTo S b t k))), (0, .ref 0), (1, .int (nI (b))), (2, .int (nI (t))), (3, .int (nI (0)))]) rfl rfl rfl ?_
        refine ev_b bX6_missing_148_73 (lv' := [(6, .int (nI (k + 1))), (7, .int (nI (0))), (4, .long (lN (abTo S b t k))), (0, .ref 0), (1, .int (nI (b))), (2, .int (nI (t))), (3, .int (nI (0)))]) (st' := []) (w2 := compW T S P U O1 B Q C R tl rf) rfl ?_
        refine ev_pick (lv' := [(6, .int (nI (k + 1))), (4, .long (lN (abTo S b t k))), (0, .ref 0), (1, .int (nI (b))), (2, .int (nI (t))), (3, .int (nI (0)))]) rfl ?_
        rw [show nI (k + 1) = nI ((k + 1)) from congrArg nI (by omega)]
        rw [show (.long (lN (abTo S b t k)) : Value) = .long (lN (abTo S b t (k + 1))) from by rw [hrs]]
        exact ih73 (k + 1) (by omega) 
      · skip
        refine ev_b bX6_missing_96_105 (lv' := [(7, .int (nI (1))), (6, .int (nI (k))), (4, .long (lN (abTo S b t k))), (0, .ref 0), (1, .int (nI (b))), (2, .int (nI (t))), (3, .int (nI (0)))]) (st' := [.int (nI (1))]) (w2 := compW T S P U O1 B Q C R tl rf) rfl ?_
        refine ev_if_eq_n (tgt := 145) (by decide) dX6_missing_105 (by decide) (fun h105 => (by exfalso; omega)) (fun h105 => ?_)
        refine ev_b bX6_missing_108_114 (lv' := [(7, .int (nI (1))), (6, .int (nI (k))), (4, .long (lN (abTo S b t k))), (0, .ref 0), (1, .int (nI (b))), (2, .int (nI (t))), (3, .int (nI (0)))]) (st' := [.int (nI (k)), .ref 25]) (w2 := compW T S P U O1 B Q C R tl rf) rfl ?_
        refine ev_callVN (Yc := mX1_first) [25, 26, 27, 28, 29] dX6_missing_114 tn_543 kX1_first (m_X1_first O1 k (keys_ok hS hK1)) rfl (st := []) rfl rfl rfl (by decide) hw_comp__25 (by decide) (Nat.le_of_ble_eq_true rfl) (Nat.le_refl _) (Nat.le_refl _) (fun r w' h => by obtain ⟨-, rfl⟩ := h; exact Nat.le_of_ble_eq_true rfl) ?_
        rintro _ _ ⟨rfl, rfl⟩
        refine ev_eq (lv' := [(7, .int (nI (1))), (6, .int (nI (k))), (4, .long (lN (abTo S b t k))), (0, .ref 0), (1, .int (nI (b))), (2, .int (nI (t))), (3, .int (nI (0)))]) (st' := [.int (nI (firstTo O1.ke k O1.sz))]) (w' := compW T S P U O1 B Q C R tl rf) rfl rfl xp_comp__25 ?_
        refine ev_top (y := (nI (wK S k))) (congrArg nI (show firstTo O1.ke k O1.sz = wK S k from by exact first_L hK1 _)) ?_
        refine ev_callSN (Yc := mX1_bidsIn) [] dX6_missing_117 tn_555 kX1_bidsIn (m_X1_bidsIn (wK S k)) rfl (st := []) rfl (by decide) rfl (by decide) (Nat.le_of_ble_eq_true rfl) (Nat.le_refl _) (Nat.le_refl _) (fun r w' h => by obtain ⟨-, rfl⟩ := h; exact Nat.le_of_ble_eq_true rfl) ?_
        rintro _ _ ⟨rfl, rfl⟩
        refine ev_eq (lv' := [(7, .int (nI (1))), (6, .int (nI (k))), (4, .long (lN (abTo S b t k))), (0, .ref 0), (1, .int (nI (b))), (2, .int (nI (t))), (3, .int (nI (0)))]) (st' := [.int (nI (bidsN (wK S k)))]) (w' := compW T S P U O1 B Q C R tl rf) rfl rfl rfl ?_
        have hwb := winB_lt hS k
        refine ev_top (y := (nI (winB S k))) (congrArg nI (show bidsN (wK S k) = winB S k from by rfl)) ?_
        refine ev_b bX6_missing_120_121 (lv' := [(7, .int (nI (1))), (6, .int (nI (k))), (4, .long (lN (abTo S b t k))), (0, .ref 0), (1, .int (nI (b))), (2, .int (nI (t))), (3, .int (nI (0)))]) (st' := [.int (nI (b)), .int (nI (winB S k))]) (w2 := compW T S P U O1 B Q C R tl rf) rfl ?_
        refine ev_callS (Yc := mX6_bitAt) [] dX6_missing_121 tw_446 kX6_bitAt (m_X6_bitAt (winB S k) b (by omega) (by omega)) rfl (st := []) rfl (by decide) rfl (by decide) (Nat.le_of_ble_eq_true rfl) (Nat.le_refl _) (Nat.le_refl _) (fun r w' h => by obtain ⟨-, rfl⟩ := h; exact Nat.le_of_ble_eq_true rfl) ?_
        rintro _ _ ⟨rfl, rfl⟩
        refine ev_eq (lv' := [(7, .int (nI (1))), (6, .int (nI (k))), (4, .long (lN (abTo S b t k))), (0, .ref 0), (1, .int (nI (b))), (2, .int (nI (t))), (3, .int (nI (0)))]) (st' := [.int (nI (b01 ((winB S k).testBit b = true)))]) (w' := compW T S P U O1 B Q C R tl rf) rfl rfl rfl ?_
        refine ev_b bX6_missing_124_125 (lv' := [(7, .int (nI (1))), (6, .int (nI (k))), (4, .long (lN (abTo S b t k))), (0, .ref 0), (1, .int (nI (b))), (2, .int (nI (t))), (3, .int (nI (0)))]) (st' := [.int (nI (1)), .int (nI (b01 ((winB S k).testBit b = true)))]) (w2 := compW T S P U O1 B Q C R tl rf) rfl ?_
        refine ev_icmpne_b1 (tgt := 145) dX6_missing_125 (by decide) (fun h125 => ?_) (fun h125 => ?_)
        · skip
          have hrs : abTo S b t (k + 1) = abTo S b t k := by rw [abTo_s, if_neg (fun z => h125 z.2), Nat.add_zero]
          refine ev_iinc_n (x := k) (v := 1) dX6_missing_145 rfl (by decide) ?_
          refine ev_eq (lv' := [(6, .int (nI (k + 1))), (7, .int (nI (1))), (4, .long (lN (abTo S b t k))), (0, .ref 0), (1, .int (nI (b))), (2, .int (nI (t))), (3, .int (nI (0)))]) rfl rfl rfl ?_
          refine ev_b bX6_missing_148_73 (lv' := [(6, .int (nI (k + 1))), (7, .int (nI (1))), (4, .long (lN (abTo S b t k))), (0, .ref 0), (1, .int (nI (b))), (2, .int (nI (t))), (3, .int (nI (0)))]) (st' := []) (w2 := compW T S P U O1 B Q C R tl rf) rfl ?_
          refine ev_pick (lv' := [(6, .int (nI (k + 1))), (4, .long (lN (abTo S b t k))), (0, .ref 0), (1, .int (nI (b))), (2, .int (nI (t))), (3, .int (nI (0)))]) rfl ?_
          rw [show nI (k + 1) = nI ((k + 1)) from congrArg nI (by omega)]
          rw [show (.long (lN (abTo S b t k)) : Value) = .long (lN (abTo S b t (k + 1))) from by rw [hrs]]
          exact ih73 (k + 1) (by omega) 
        · skip
          have hrs : abTo S b t (k + 1) = abTo S b t k + (t - 1) ^ pop k := by rw [abTo_s, if_pos ⟨h93, h125⟩]
          refine ev_b bX6_missing_128_132 (lv' := [(7, .int (nI (1))), (6, .int (nI (k))), (4, .long (lN (abTo S b t k))), (0, .ref 0), (1, .int (nI (b))), (2, .int (nI (t))), (3, .int (nI (0)))]) (st' := [.int (nI (1)), .int (nI (t)), .long (lN (abTo S b t k))]) (w2 := compW T S P U O1 B Q C R tl rf) rfl ?_
          refine ev_isub_n (by omega) dX6_missing_132 ?_
          refine ev_b bX6_missing_133_134 (lv' := [(7, .int (nI (1))), (6, .int (nI (k))), (4, .long (lN (abTo S b t k))), (0, .ref 0), (1, .int (nI (b))), (2, .int (nI (t))), (3, .int (nI (0)))]) (st' := [.long (Int32.toInt64 ((nI (t - 1)))), .long (lN (abTo S b t k))]) (w2 := compW T S P U O1 B Q C R tl rf) rfl ?_
          refine ev_topL (y := lN (t - 1)) (by exact nI_lN (by omega)) ?_
          refine ev_b bX6_missing_134_136 (lv' := [(7, .int (nI (1))), (6, .int (nI (k))), (4, .long (lN (abTo S b t k))), (0, .ref 0), (1, .int (nI (b))), (2, .int (nI (t))), (3, .int (nI (0)))]) (st' := [.int (nI (k)), .long (lN (t - 1)), .long (lN (abTo S b t k))]) (w2 := compW T S P U O1 B Q C R tl rf) rfl ?_
          refine ev_callS (Yc := mJ6_bitCount_0f7a4) [] dX6_missing_136 tw_696 kJ6_bitCount_0f7a4 (m_bitCount k (by omega)) rfl (st := [.long (lN (t - 1)), .long (lN (abTo S b t k))]) rfl (by decide) rfl (by decide) (Nat.le_of_ble_eq_true rfl) (Nat.le_refl _) (Nat.le_refl _) (fun r w' h => by obtain ⟨-, rfl⟩ := h; exact Nat.le_of_ble_eq_true rfl) ?_
          rintro _ _ ⟨rfl, rfl⟩
          refine ev_eq (lv' := [(7, .int (nI (1))), (6, .int (nI (k))), (4, .long (lN (abTo S b t k))), (0, .ref 0), (1, .int (nI (b))), (2, .int (nI (t))), (3, .int (nI (0)))]) (st' := [.int (nI (pop k)), .long (lN (t - 1)), .long (lN (abTo S b t k))]) (w' := compW T S P U O1 B Q C R tl rf) rfl rfl rfl ?_
          have hpk := pop_le k
          refine ev_callS (Yc := mX6_power) [] dX6_missing_139 tw_805 kX6_power (m_X6_power (lN (t - 1)) (pop k) (by omega)) rfl (st := [.long (lN (abTo S b t k))]) rfl (by decide) rfl (by decide) (Nat.le_of_ble_eq_true rfl) (Nat.le_refl _) (Nat.le_refl _) (fun r w' h => by obtain ⟨-, rfl⟩ := h; exact Nat.le_of_ble_eq_true rfl) ?_
          rintro _ _ ⟨rfl, rfl⟩
          refine ev_eq (lv' := [(7, .int (nI (1))), (6, .int (nI (k))), (4, .long (lN (abTo S b t k))), (0, .ref 0), (1, .int (nI (b))), (2, .int (nI (t))), (3, .int (nI (0)))]) (st' := [.long (powL (lN (t - 1)) (pop k)), .long (lN (abTo S b t k))]) (w' := compW T S P U O1 B Q C R tl rf) rfl rfl rfl ?_
          refine ev_topL (y := lN ((t - 1) ^ pop k)) (by exact powL_n _ _) ?_
          refine ev_b bX6_missing_142_143 (lv' := [(7, .int (nI (1))), (6, .int (nI (k))), (4, .long (lN (abTo S b t k))), (0, .ref 0), (1, .int (nI (b))), (2, .int (nI (t))), (3, .int (nI (0)))]) (st' := [.long ((lN (abTo S b t k)) + (lN ((t - 1) ^ pop k)))]) (w2 := compW T S P U O1 B Q C R tl rf) rfl ?_
          refine ev_topL (y := lN (abTo S b t k + (t - 1) ^ pop k)) (by exact lN_add _ _) ?_
          refine ev_b bX6_missing_143_145 (lv' := [(4, .long (lN (abTo S b t k + (t - 1) ^ pop k))), (7, .int (nI (1))), (6, .int (nI (k))), (0, .ref 0), (1, .int (nI (b))), (2, .int (nI (t))), (3, .int (nI (0)))]) (st' := []) (w2 := compW T S P U O1 B Q C R tl rf) rfl ?_
          refine ev_iinc_n (x := k) (v := 1) dX6_missing_145 rfl (by decide) ?_
          refine ev_eq (lv' := [(6, .int (nI (k + 1))), (4, .long (lN (abTo S b t k + (t - 1) ^ pop k))), (7, .int (nI (1))), (0, .ref 0), (1, .int (nI (b))), (2, .int (nI (t))), (3, .int (nI (0)))]) rfl rfl rfl ?_
          refine ev_b bX6_missing_148_73 (lv' := [(6, .int (nI (k + 1))), (4, .long (lN (abTo S b t k + (t - 1) ^ pop k))), (7, .int (nI (1))), (0, .ref 0), (1, .int (nI (b))), (2, .int (nI (t))), (3, .int (nI (0)))]) (st' := []) (w2 := compW T S P U O1 B Q C R tl rf) rfl ?_
          refine ev_pick (lv' := [(6, .int (nI (k + 1))), (4, .long (lN (abTo S b t k + (t - 1) ^ pop k))), (0, .ref 0), (1, .int (nI (b))), (2, .int (nI (t))), (3, .int (nI (0)))]) rfl ?_
          rw [show nI (k + 1) = nI ((k + 1)) from congrArg nI (by omega)]
          rw [show (.long (lN (abTo S b t k + (t - 1) ^ pop k)) : Value) = .long (lN (abTo S b t (k + 1))) from by rw [hrs]]
          exact ih73 (k + 1) (by omega) 
  rw [show (.long (0) : Value) = .long (lN (abTo S b t 0)) from by exact congrArg Value.long (show (0 : Int64) = lN 0 from by decide)]
  exact L73 1024 0 (by omega) 
set_option maxHeartbeats 4000000 in
set_option maxRecDepth 100000 in
theorem p_missing_w1 {l : Launch} {E : XE} (T : TopN) (S P U : SaleN) (O : OutN) (B : BillN) (Q : SeaN) (C : ScrN) (R : PrtN) (tl rf : Nat → Nat) (b t : Nat) (hS : SaleOK S) (hQ : Q.fd < 2147483648) (hb : b < S.ca) (ht : 2 ≤ t ∧ t ≤ 20) : MetE l E mX6_missing (4) 0 0 [.ref 0, .int (nI (b)), .int (nI (t)), .int (nI (1))] (compW T S P U O B Q C R tl rf) (CP T S P (C.lt) (C.sz) tl rf (some (.long (lN (frN (abTo S b t 1024) (t ^ pop S.ac) 1))))) := by
  refine MetE.of (by decide +kernel) (Nat.le_of_ble_eq_true rfl) ?_
  have hca := hS.1
  have hpw := pow_ca hS
  have hac := ac_lt hS
  
  refine ev_eq (lv' := [(0, .ref 0), (1, .int (nI (b))), (2, .int (nI (t))), (3, .int (nI (1)))]) (st' := []) (w' := compW T S P U O B Q C R tl rf) rfl rfl rfl ?_
  refine ev_b bX6_missing_0_5 (lv' := [(0, .ref 0), (1, .int (nI (b))), (2, .int (nI (t))), (3, .int (nI (1)))]) (st' := [.int (nI (b)), .ref 1]) (w2 := compW T S P U O B Q C R tl rf) rfl ?_
  refine ev_callVN (Yc := mX3_hasBid) [1, 2, 3, 4, 5, 6, 7, 8] dX6_missing_5 tn_444 kX3_hasBid (m_X3_hasBid S b hS (by omega)) rfl (st := []) rfl rfl rfl (by decide) hw_comp__1 (by decide) (Nat.le_of_ble_eq_true rfl) (Nat.le_refl _) (Nat.le_refl _) (fun r w' h => by obtain ⟨-, rfl⟩ := h; exact Nat.le_of_ble_eq_true rfl) ?_
  rintro _ _ ⟨rfl, rfl⟩
  refine ev_eq (lv' := [(0, .ref 0), (1, .int (nI (b))), (2, .int (nI (t))), (3, .int (nI (1)))]) (st' := [.int (nI (b01 (b < S.ca)))]) (w' := compW T S P U O B Q C R tl rf) rfl rfl xp_comp__1 ?_
  refine ev_ifne_b (tgt := 17) dX6_missing_8 (by decide) (fun h8 => ?_) (fun h8 => (by exfalso; omega))
  refine ev_b bX6_missing_17_19 (lv' := [(0, .ref 0), (1, .int (nI (b))), (2, .int (nI (t))), (3, .int (nI (1)))]) (st' := [.int (nI (2)), .int (nI (t))]) (w2 := compW T S P U O B Q C R tl rf) rfl ?_
  refine ev_icmp_ge_n (tgt := 29) (by omega) (by decide) dX6_missing_19 (by decide) (fun h19 => ?_) (fun h19 => (by exfalso; omega))
  refine ev_b bX6_missing_29_32 (lv' := [(0, .ref 0), (1, .int (nI (b))), (2, .int (nI (t))), (3, .int (nI (1)))]) (st' := [.int (nI (20)), .int (nI (t))]) (w2 := compW T S P U O B Q C R tl rf) rfl ?_
  refine ev_icmp_le_n (tgt := 42) (by omega) (by decide) dX6_missing_32 (by decide) (fun h32 => ?_) (fun h32 => (by exfalso; omega))
  refine ev_b bX6_missing_42_43 (lv' := [(0, .ref 0), (1, .int (nI (b))), (2, .int (nI (t))), (3, .int (nI (1)))]) (st' := [.int (nI (1))]) (w2 := compW T S P U O B Q C R tl rf) rfl ?_
  refine ev_callS (Yc := mX6_isEither) [] dX6_missing_43 tw_667 kX6_isEither m_X6_isEither_1 rfl (st := []) rfl (by decide) rfl (by decide) (Nat.le_of_ble_eq_true rfl) (Nat.le_refl _) (Nat.le_refl _) (fun r w' h => by obtain ⟨-, rfl⟩ := h; exact Nat.le_of_ble_eq_true rfl) ?_
  rintro _ _ ⟨rfl, rfl⟩
  refine ev_eq (lv' := [(0, .ref 0), (1, .int (nI (b))), (2, .int (nI (t))), (3, .int (nI (1)))]) (st' := [.int (nI (1))]) (w' := compW T S P U O B Q C R tl rf) rfl rfl rfl ?_
  refine ev_if_ne_n (tgt := 56) (by decide) dX6_missing_46 (by decide) (fun h46 => ?_) (fun h46 => (by exfalso; omega))
  refine ev_b bX6_missing_56_64 (lv' := [(0, .ref 0), (1, .int (nI (b))), (2, .int (nI (t))), (3, .int (nI (1)))]) (st' := [.ref 1, .ref 25]) (w2 := compW T S P U O B Q C R tl rf) rfl ?_
  refine ev_callVN (Yc := mX1_gather) [25, 26, 27, 28, 29, 1, 2, 3, 4, 5, 6, 7, 8] dX6_missing_64 tn_497 kX1_gather (m_X1_gather O S hS) rfl (st := []) rfl rfl rfl (by decide) hw_comp__25_1 (by decide) (Nat.le_of_ble_eq_true rfl) (Nat.le_refl _) (Nat.le_refl _) (fun r w' h => by obtain ⟨-, O', rfl, -⟩ := h; exact Nat.le_of_ble_eq_true rfl) ?_
  rintro _ _ ⟨rfl, O1, rfl, hK1⟩
  refine ev_eq (lv' := [(0, .ref 0), (1, .int (nI (b))), (2, .int (nI (t))), (3, .int (nI (1)))]) (st' := []) (w' := compW T S P U O1 B Q C R tl rf) rfl rfl xp_comp__25_1 ?_
  refine ev_b bX6_missing_67_73 (lv' := [(6, .int (nI (0))), (4, .long (0)), (0, .ref 0), (1, .int (nI (b))), (2, .int (nI (t))), (3, .int (nI (1)))]) (st' := []) (w2 := compW T S P U O1 B Q C R tl rf) rfl ?_
  have L73 : ∀ (j_ k : Nat), k + j_ = 1024 → Ev l E mX6_missing (4) 0 0 (compW T S P U O B Q C R tl rf) (CP T S P (C.lt) (C.sz) tl rf (some (.long (lN (frN (abTo S b t 1024) (t ^ pop S.ac) 1))))) 0 0 73 [(6, .int (nI (k))), (4, .long (lN (abTo S b t k))), (0, .ref 0), (1, .int (nI (b))), (2, .int (nI (t))), (3, .int (nI (1)))] [] (compW T S P U O1 B Q C R tl rf) := by
    intro j_
    induction j_ with
    | zero =>
      intro k hk73  
      replace hk73 : k = 1024 := hk73
      subst hk73
      refine ev_b bX6_missing_73_78 (lv' := [(6, .int (nI (1024))), (4, .long (lN (abTo S b t 1024))), (0, .ref 0), (1, .int (nI (b))), (2, .int (nI (t))), (3, .int (nI (1)))]) (st' := [.int (nI (1023)), .int (nI (1024))]) (w2 := compW T S P U O1 B Q C R tl rf) rfl ?_
      refine ev_icmp_gt_n (tgt := 151) (by decide) (by decide) dX6_missing_78 (by decide) (fun h78 => ?_) (fun h78 => (by exfalso; omega))
      refine ev_b bX6_missing_151_155 (lv' := [(6, .int (nI (1024))), (4, .long (lN (abTo S b t 1024))), (0, .ref 0), (1, .int (nI (b))), (2, .int (nI (t))), (3, .int (nI (1)))]) (st' := [.long (Int32.toInt64 ((nI (t)))), .long (lN (abTo S b t 1024))]) (w2 := compW T S P U O1 B Q C R tl rf) rfl ?_
      refine ev_topL (y := lN t) (by exact nI_lN (by omega)) ?_
      refine ev_b bX6_missing_155_162 (lv' := [(6, .int (nI (1024))), (4, .long (lN (abTo S b t 1024))), (0, .ref 0), (1, .int (nI (b))), (2, .int (nI (t))), (3, .int (nI (1)))]) (st' := [.int (nI (S.ac)), .long (lN t), .long (lN (abTo S b t 1024))]) (w2 := compW T S P U O1 B Q C R tl rf) rfl ?_
      refine ev_callS (Yc := mJ6_bitCount_0f7a4) [] dX6_missing_162 tw_696 kJ6_bitCount_0f7a4 (m_bitCount S.ac (by have := hS.2.1; omega)) rfl (st := [.long (lN t), .long (lN (abTo S b t 1024))]) rfl (by decide) rfl (by decide) (Nat.le_of_ble_eq_true rfl) (Nat.le_refl _) (Nat.le_refl _) (fun r w' h => by obtain ⟨-, rfl⟩ := h; exact Nat.le_of_ble_eq_true rfl) ?_
      rintro _ _ ⟨rfl, rfl⟩
      refine ev_eq (lv' := [(6, .int (nI (1024))), (4, .long (lN (abTo S b t 1024))), (0, .ref 0), (1, .int (nI (b))), (2, .int (nI (t))), (3, .int (nI (1)))]) (st' := [.int (nI (pop S.ac)), .long (lN t), .long (lN (abTo S b t 1024))]) (w' := compW T S P U O1 B Q C R tl rf) rfl rfl rfl ?_
      have hpac := pop_le S.ac
      refine ev_callS (Yc := mX6_power) [] dX6_missing_165 tw_805 kX6_power (m_X6_power (lN t) (pop S.ac) (by omega)) rfl (st := [.long (lN (abTo S b t 1024))]) rfl (by decide) rfl (by decide) (Nat.le_of_ble_eq_true rfl) (Nat.le_refl _) (Nat.le_refl _) (fun r w' h => by obtain ⟨-, rfl⟩ := h; exact Nat.le_of_ble_eq_true rfl) ?_
      rintro _ _ ⟨rfl, rfl⟩
      refine ev_eq (lv' := [(6, .int (nI (1024))), (4, .long (lN (abTo S b t 1024))), (0, .ref 0), (1, .int (nI (b))), (2, .int (nI (t))), (3, .int (nI (1)))]) (st' := [.long (powL (lN t) (pop S.ac)), .long (lN (abTo S b t 1024))]) (w' := compW T S P U O1 B Q C R tl rf) rfl rfl rfl ?_
      refine ev_topL (y := lN (t ^ pop S.ac)) (by exact powL_n _ _) ?_
      refine ev_b bX6_missing_168_169 (lv' := [(6, .int (nI (1024))), (4, .long (lN (abTo S b t 1024))), (0, .ref 0), (1, .int (nI (b))), (2, .int (nI (t))), (3, .int (nI (1)))]) (st' := [.int (nI (1)), .long (lN (t ^ pop S.ac)), .long (lN (abTo S b t 1024))]) (w2 := compW T S P U O1 B Q C R tl rf) rfl ?_
      refine ev_callS (Yc := mX6_fraction) [] dX6_missing_169 tw_808 kX6_fraction (m_X6_fraction_1 (abTo S b t 1024) (t ^ pop S.ac) (ab_big ht.2) (pw_big ht.2 (pop_le S.ac))) rfl (st := []) rfl (by decide) rfl (by decide) (Nat.le_of_ble_eq_true rfl) (Nat.le_refl _) (Nat.le_refl _) (fun r w' h => by obtain ⟨-, rfl⟩ := h; exact Nat.le_of_ble_eq_true rfl) ?_
      rintro _ _ ⟨rfl, rfl⟩
      refine ev_eq (lv' := [(6, .int (nI (1024))), (4, .long (lN (abTo S b t 1024))), (0, .ref 0), (1, .int (nI (b))), (2, .int (nI (t))), (3, .int (nI (1)))]) (st' := [.long (lN (frN (abTo S b t 1024) (t ^ pop S.ac) 1))]) (w' := compW T S P U O1 B Q C R tl rf) rfl rfl rfl ?_
      exact ev_lret dX6_missing_172 rfl (Nat.le_refl 49) (Nat.le_refl _) (Nat.le_refl _) ⟨rfl, _, _, _, _, _, _, rfl, hQ, rfl, rfl⟩
    | succ j_ ih73 =>
      intro k hk73  
      have hlt73 : k < 1024 := by omega
      refine ev_b bX6_missing_73_78 (lv' := [(6, .int (nI (k))), (4, .long (lN (abTo S b t k))), (0, .ref 0), (1, .int (nI (b))), (2, .int (nI (t))), (3, .int (nI (1)))]) (st' := [.int (nI (1023)), .int (nI (k))]) (w2 := compW T S P U O1 B Q C R tl rf) rfl ?_
      refine ev_icmp_gt_n (tgt := 151) (by omega) (by decide) dX6_missing_78 (by decide) (fun h78 => (by exfalso; omega)) (fun h78 => ?_)
      refine ev_b bX6_missing_81_92 (lv' := [(6, .int (nI (k))), (4, .long (lN (abTo S b t k))), (0, .ref 0), (1, .int (nI (b))), (2, .int (nI (t))), (3, .int (nI (1)))]) (st' := [.int (nI (S.ac) ^^^ (-1)), .int (nI (k))]) (w2 := compW T S P U O1 B Q C R tl rf) rfl ?_
      refine ev_iandn_n dX6_missing_92 ?_
      refine ev_if_ne_n (tgt := 100) (by exact Nat.lt_of_le_of_lt (xor_and_le _ _) (by omega)) dX6_missing_93 (by decide) (fun h93 => ?_) (fun h93 => ?_)
      · skip
        have hrs : abTo S b t (k + 1) = abTo S b t k := by rw [abTo_s, if_neg (fun z => h93 z.1), Nat.add_zero]
        refine ev_b bX6_missing_100_105 (lv' := [(7, .int (nI (0))), (6, .int (nI (k))), (4, .long (lN (abTo S b t k))), (0, .ref 0), (1, .int (nI (b))), (2, .int (nI (t))), (3, .int (nI (1)))]) (st' := [.int (nI (0))]) (w2 := compW T S P U O1 B Q C R tl rf) rfl ?_
        refine ev_if_eq_n (tgt := 145) (by decide) dX6_missing_105 (by decide) (fun h105 => ?_) (fun h105 => (by exfalso; omega))
        refine ev_iinc_n (x := k) (v := 1) dX6_missing_145 rfl (by decide) ?_
        refine ev_eq (lv' := [(6, .int (nI (k + 1))), (7, .int (nI (0))), (4, .long (lN (abTo S b t k))), (0, .ref 0), (1, .int (nI (b))), (2, .int (nI (t))), (3, .int (nI (1)))]) rfl rfl rfl ?_
        refine ev_b bX6_missing_148_73 (lv' := [(6, .int (nI (k + 1))), (7, .int (nI (0))), (4, .long (lN (abTo S b t k))), (0, .ref 0), (1, .int (nI (b))), (2, .int (nI (t))), (3, .int (nI (1)))]) (st' := []) (w2 := compW T S P U O1 B Q C R tl rf) rfl ?_
        refine ev_pick (lv' := [(6, .int (nI (k + 1))), (4, .long (lN (abTo S b t k))), (0, .ref 0), (1, .int (nI (b))), (2, .int (nI (t))), (3, .int (nI (1)))]) rfl ?_
        rw [show nI (k + 1) = nI ((k + 1)) from congrArg nI (by omega)]
        rw [show (.long (lN (abTo S b t k)) : Value) = .long (lN (abTo S b t (k + 1))) from by rw [hrs]]
        exact ih73 (k + 1) (by omega) 
      · skip
        refine ev_b bX6_missing_96_105 (lv' := [(7, .int (nI (1))), (6, .int (nI (k))), (4, .long (lN (abTo S b t k))), (0, .ref 0), (1, .int (nI (b))), (2, .int (nI (t))), (3, .int (nI (1)))]) (st' := [.int (nI (1))]) (w2 := compW T S P U O1 B Q C R tl rf) rfl ?_
        refine ev_if_eq_n (tgt := 145) (by decide) dX6_missing_105 (by decide) (fun h105 => (by exfalso; omega)) (fun h105 => ?_)
        refine ev_b bX6_missing_108_114 (lv' := [(7, .int (nI (1))), (6, .int (nI (k))), (4, .long (lN (abTo S b t k))), (0, .ref 0), (1, .int (nI (b))), (2, .int (nI (t))), (3, .int (nI (1)))]) (st' := [.int (nI (k)), .ref 25]) (w2 := compW T S P U O1 B Q C R tl rf) rfl ?_
        refine ev_callVN (Yc := mX1_first) [25, 26, 27, 28, 29] dX6_missing_114 tn_543 kX1_first (m_X1_first O1 k (keys_ok hS hK1)) rfl (st := []) rfl rfl rfl (by decide) hw_comp__25 (by decide) (Nat.le_of_ble_eq_true rfl) (Nat.le_refl _) (Nat.le_refl _) (fun r w' h => by obtain ⟨-, rfl⟩ := h; exact Nat.le_of_ble_eq_true rfl) ?_
        rintro _ _ ⟨rfl, rfl⟩
        refine ev_eq (lv' := [(7, .int (nI (1))), (6, .int (nI (k))), (4, .long (lN (abTo S b t k))), (0, .ref 0), (1, .int (nI (b))), (2, .int (nI (t))), (3, .int (nI (1)))]) (st' := [.int (nI (firstTo O1.ke k O1.sz))]) (w' := compW T S P U O1 B Q C R tl rf) rfl rfl xp_comp__25 ?_
        refine ev_top (y := (nI (wK S k))) (congrArg nI (show firstTo O1.ke k O1.sz = wK S k from by exact first_L hK1 _)) ?_
        refine ev_callSN (Yc := mX1_bidsIn) [] dX6_missing_117 tn_555 kX1_bidsIn (m_X1_bidsIn (wK S k)) rfl (st := []) rfl (by decide) rfl (by decide) (Nat.le_of_ble_eq_true rfl) (Nat.le_refl _) (Nat.le_refl _) (fun r w' h => by obtain ⟨-, rfl⟩ := h; exact Nat.le_of_ble_eq_true rfl) ?_
        rintro _ _ ⟨rfl, rfl⟩
        refine ev_eq (lv' := [(7, .int (nI (1))), (6, .int (nI (k))), (4, .long (lN (abTo S b t k))), (0, .ref 0), (1, .int (nI (b))), (2, .int (nI (t))), (3, .int (nI (1)))]) (st' := [.int (nI (bidsN (wK S k)))]) (w' := compW T S P U O1 B Q C R tl rf) rfl rfl rfl ?_
        have hwb := winB_lt hS k
        refine ev_top (y := (nI (winB S k))) (congrArg nI (show bidsN (wK S k) = winB S k from by rfl)) ?_
        refine ev_b bX6_missing_120_121 (lv' := [(7, .int (nI (1))), (6, .int (nI (k))), (4, .long (lN (abTo S b t k))), (0, .ref 0), (1, .int (nI (b))), (2, .int (nI (t))), (3, .int (nI (1)))]) (st' := [.int (nI (b)), .int (nI (winB S k))]) (w2 := compW T S P U O1 B Q C R tl rf) rfl ?_
        refine ev_callS (Yc := mX6_bitAt) [] dX6_missing_121 tw_446 kX6_bitAt (m_X6_bitAt (winB S k) b (by omega) (by omega)) rfl (st := []) rfl (by decide) rfl (by decide) (Nat.le_of_ble_eq_true rfl) (Nat.le_refl _) (Nat.le_refl _) (fun r w' h => by obtain ⟨-, rfl⟩ := h; exact Nat.le_of_ble_eq_true rfl) ?_
        rintro _ _ ⟨rfl, rfl⟩
        refine ev_eq (lv' := [(7, .int (nI (1))), (6, .int (nI (k))), (4, .long (lN (abTo S b t k))), (0, .ref 0), (1, .int (nI (b))), (2, .int (nI (t))), (3, .int (nI (1)))]) (st' := [.int (nI (b01 ((winB S k).testBit b = true)))]) (w' := compW T S P U O1 B Q C R tl rf) rfl rfl rfl ?_
        refine ev_b bX6_missing_124_125 (lv' := [(7, .int (nI (1))), (6, .int (nI (k))), (4, .long (lN (abTo S b t k))), (0, .ref 0), (1, .int (nI (b))), (2, .int (nI (t))), (3, .int (nI (1)))]) (st' := [.int (nI (1)), .int (nI (b01 ((winB S k).testBit b = true)))]) (w2 := compW T S P U O1 B Q C R tl rf) rfl ?_
        refine ev_icmpne_b1 (tgt := 145) dX6_missing_125 (by decide) (fun h125 => ?_) (fun h125 => ?_)
        · skip
          have hrs : abTo S b t (k + 1) = abTo S b t k := by rw [abTo_s, if_neg (fun z => h125 z.2), Nat.add_zero]
          refine ev_iinc_n (x := k) (v := 1) dX6_missing_145 rfl (by decide) ?_
          refine ev_eq (lv' := [(6, .int (nI (k + 1))), (7, .int (nI (1))), (4, .long (lN (abTo S b t k))), (0, .ref 0), (1, .int (nI (b))), (2, .int (nI (t))), (3, .int (nI (1)))]) rfl rfl rfl ?_
          refine ev_b bX6_missing_148_73 (lv' := [(6, .int (nI (k + 1))), (7, .int (nI (1))), (4, .long (lN (abTo S b t k))), (0, .ref 0), (1, .int (nI (b))), (2, .int (nI (t))), (3, .int (nI (1)))]) (st' := []) (w2 := compW T S P U O1 B Q C R tl rf) rfl ?_
          refine ev_pick (lv' := [(6, .int (nI (k + 1))), (4, .long (lN (abTo S b t k))), (0, .ref 0), (1, .int (nI (b))), (2, .int (nI (t))), (3, .int (nI (1)))]) rfl ?_
          rw [show nI (k + 1) = nI ((k + 1)) from congrArg nI (by omega)]
          rw [show (.long (lN (abTo S b t k)) : Value) = .long (lN (abTo S b t (k + 1))) from by rw [hrs]]
          exact ih73 (k + 1) (by omega) 
        · skip
          have hrs : abTo S b t (k + 1) = abTo S b t k + (t - 1) ^ pop k := by rw [abTo_s, if_pos ⟨h93, h125⟩]
          refine ev_b bX6_missing_128_132 (lv' := [(7, .int (nI (1))), (6, .int (nI (k))), (4, .long (lN (abTo S b t k))), (0, .ref 0), (1, .int (nI (b))), (2, .int (nI (t))), (3, .int (nI (1)))]) (st' := [.int (nI (1)), .int (nI (t)), .long (lN (abTo S b t k))]) (w2 := compW T S P U O1 B Q C R tl rf) rfl ?_
          refine ev_isub_n (by omega) dX6_missing_132 ?_
          refine ev_b bX6_missing_133_134 (lv' := [(7, .int (nI (1))), (6, .int (nI (k))), (4, .long (lN (abTo S b t k))), (0, .ref 0), (1, .int (nI (b))), (2, .int (nI (t))), (3, .int (nI (1)))]) (st' := [.long (Int32.toInt64 ((nI (t - 1)))), .long (lN (abTo S b t k))]) (w2 := compW T S P U O1 B Q C R tl rf) rfl ?_
          refine ev_topL (y := lN (t - 1)) (by exact nI_lN (by omega)) ?_
          refine ev_b bX6_missing_134_136 (lv' := [(7, .int (nI (1))), (6, .int (nI (k))), (4, .long (lN (abTo S b t k))), (0, .ref 0), (1, .int (nI (b))), (2, .int (nI (t))), (3, .int (nI (1)))]) (st' := [.int (nI (k)), .long (lN (t - 1)), .long (lN (abTo S b t k))]) (w2 := compW T S P U O1 B Q C R tl rf) rfl ?_
          refine ev_callS (Yc := mJ6_bitCount_0f7a4) [] dX6_missing_136 tw_696 kJ6_bitCount_0f7a4 (m_bitCount k (by omega)) rfl (st := [.long (lN (t - 1)), .long (lN (abTo S b t k))]) rfl (by decide) rfl (by decide) (Nat.le_of_ble_eq_true rfl) (Nat.le_refl _) (Nat.le_refl _) (fun r w' h => by obtain ⟨-, rfl⟩ := h; exact Nat.le_of_ble_eq_true rfl) ?_
          rintro _ _ ⟨rfl, rfl⟩
          refine ev_eq (lv' := [(7, .int (nI (1))), (6, .int (nI (k))), (4, .long (lN (abTo S b t k))), (0, .ref 0), (1, .int (nI (b))), (2, .int (nI (t))), (3, .int (nI (1)))]) (st' := [.int (nI (pop k)), .long (lN (t - 1)), .long (lN (abTo S b t k))]) (w' := compW T S P U O1 B Q C R tl rf) rfl rfl rfl ?_
          have hpk := pop_le k
          refine ev_callS (Yc := mX6_power) [] dX6_missing_139 tw_805 kX6_power (m_X6_power (lN (t - 1)) (pop k) (by omega)) rfl (st := [.long (lN (abTo S b t k))]) rfl (by decide) rfl (by decide) (Nat.le_of_ble_eq_true rfl) (Nat.le_refl _) (Nat.le_refl _) (fun r w' h => by obtain ⟨-, rfl⟩ := h; exact Nat.le_of_ble_eq_true rfl) ?_
          rintro _ _ ⟨rfl, rfl⟩
          refine ev_eq (lv' := [(7, .int (nI (1))), (6, .int (nI (k))), (4, .long (lN (abTo S b t k))), (0, .ref 0), (1, .int (nI (b))), (2, .int (nI (t))), (3, .int (nI (1)))]) (st' := [.long (powL (lN (t - 1)) (pop k)), .long (lN (abTo S b t k))]) (w' := compW T S P U O1 B Q C R tl rf) rfl rfl rfl ?_
          refine ev_topL (y := lN ((t - 1) ^ pop k)) (by exact powL_n _ _) ?_
          refine ev_b bX6_missing_142_143 (lv' := [(7, .int (nI (1))), (6, .int (nI (k))), (4, .long (lN (abTo S b t k))), (0, .ref 0), (1, .int (nI (b))), (2, .int (nI (t))), (3, .int (nI (1)))]) (st' := [.long ((lN (abTo S b t k)) + (lN ((t - 1) ^ pop k)))]) (w2 := compW T S P U O1 B Q C R tl rf) rfl ?_
          refine ev_topL (y := lN (abTo S b t k + (t - 1) ^ pop k)) (by exact lN_add _ _) ?_
          refine ev_b bX6_missing_143_145 (lv' := [(4, .long (lN (abTo S b t k + (t - 1) ^ pop k))), (7, .int (nI (1))), (6, .int (nI (k))), (0, .ref 0), (1, .int (nI (b))), (2, .int (nI (t))), (3, .int (nI (1)))]) (st' := []) (w2 := compW T S P U O1 B Q C R tl rf) rfl ?_
          refine ev_iinc_n (x := k) (v := 1) dX6_missing_145 rfl (by decide) ?_
          refine ev_eq (lv' := [(6, .int (nI (k + 1))), (4, .long (lN (abTo S b t k + (t - 1) ^ pop k))), (7, .int (nI (1))), (0, .ref 0), (1, .int (nI (b))), (2, .int (nI (t))), (3, .int (nI (1)))]) rfl rfl rfl ?_
          refine ev_b bX6_missing_148_73 (lv' := [(6, .int (nI (k + 1))), (4, .long (lN (abTo S b t k + (t - 1) ^ pop k))), (7, .int (nI (1))), (0, .ref 0), (1, .int (nI (b))), (2, .int (nI (t))), (3, .int (nI (1)))]) (st' := []) (w2 := compW T S P U O1 B Q C R tl rf) rfl ?_
          refine ev_pick (lv' := [(6, .int (nI (k + 1))), (4, .long (lN (abTo S b t k + (t - 1) ^ pop k))), (0, .ref 0), (1, .int (nI (b))), (2, .int (nI (t))), (3, .int (nI (1)))]) rfl ?_
          rw [show nI (k + 1) = nI ((k + 1)) from congrArg nI (by omega)]
          rw [show (.long (lN (abTo S b t k + (t - 1) ^ pop k)) : Value) = .long (lN (abTo S b t (k + 1))) from by rw [hrs]]
          exact ih73 (k + 1) (by omega) 
  rw [show (.long (0) : Value) = .long (lN (abTo S b t 0)) from by exact congrArg Value.long (show (0 : Int64) = lN 0 from by decide)]
  exact L73 1024 0 (by omega) 
