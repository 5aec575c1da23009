theorem bX7_isLetter_0_8 {l : Launch} {E : XE} : Snd l E mX7_isLetter 0 8 (xs [x_aload 0, x_get 8 16, x_aload 0, x_get 8 15]) := Snd.cons (snd_aload_n (i := 0) dX7_isLetter_0 rfl) (Snd.cons (snd_get (ci := 8) (k := 16) dX7_isLetter_1 rfl inX7 (by decide) tw_930) (Snd.cons (snd_aload_n (i := 0) dX7_isLetter_4 rfl) (Snd.cons (snd_get (ci := 8) (k := 15) dX7_isLetter_5 rfl inX7 (by decide) tw_929) Snd.nil)))
theorem bX7_isLetter_34_35 {l : Launch} {E : XE} : Snd l E mX7_isLetter 34 35 (xs [x_push (.int (nI 0))]) := Snd.cons (snd_iconst (v := nI 0) dX7_isLetter_34 (by decide)) Snd.nil
theorem bX7_isLetter_11_19 {l : Launch} {E : XE} : Snd l E mX7_isLetter 11 19 (xs [x_aload 0, x_get 8 14, x_aload 0, x_get 8 16]) := Snd.cons (snd_aload_n (i := 0) dX7_isLetter_11 rfl) (Snd.cons (snd_get (ci := 8) (k := 14) dX7_isLetter_12 rfl inX7 (by decide) tw_928) (Snd.cons (snd_aload_n (i := 0) dX7_isLetter_15 rfl) (Snd.cons (snd_get (ci := 8) (k := 16) dX7_isLetter_16 rfl inX7 (by decide) tw_930) Snd.nil)))
theorem bX7_isLetter_20_24 {l : Launch} {E : XE} : Snd l E mX7_isLetter 20 24 (xs [x_push (.int (nI 97)), x_push (.int (nI 122))]) := Snd.cons (snd_bipush (v := nI 97) dX7_isLetter_20 (by decide)) (Snd.cons (snd_bipush (v := nI 122) dX7_isLetter_22 (by decide)) Snd.nil)
theorem bX7_isLetter_30_35 {l : Launch} {E : XE} : Snd l E mX7_isLetter 30 35 (xs [x_push (.int (nI 1)), x_id]) := Snd.cons (snd_iconst (v := nI 1) dX7_isLetter_30 (by decide)) (Snd.cons (snd_goto (tgt := 35) dX7_isLetter_31 (by decide)) Snd.nil)
set_option maxHeartbeats 4000000 in
set_option maxRecDepth 100000 in
theorem m_X7_isLetter {l : Launch} {E : XE} (S : SaleN) (X : ModN) (K : Option (Nat → Nat)) (hT : X.ty ≤ 96) (hL : ∀ k, k < X.ty → X.lt k ≤ 255) (hp : X.pl ≤ 96) : MetE l E mX7_isLetter (1) 0 0 [.ref 0] (modW 0 S X K) (fun r w' => r = some (.int (nI (b01 (isSm (sgz X.lt X.ty X.pl))))) ∧ w' = modW 0 S X K) := by
  refine MetE.of (by decide +kernel) (Nat.le_of_ble_eq_true rfl) ?_
  refine ev_eq (lv' := [(0, .ref 0)]) (st' := []) (w' := modW 0 S X K) rfl rfl rfl ?_
  refine ev_b bX7_isLetter_0_8 (lv' := [(0, .ref 0)]) (st' := [.int (nI (X.ty)), .int (nI (X.pl))]) (w2 := modW 0 S X K) rfl ?_
  refine ev_icmp_ge_n (tgt := 34) (by omega) (by omega) dX7_isLetter_8 (by decide) (fun h8 => ?_) (fun h8 => ?_)
  · skip
    have hsg : sgz X.lt X.ty X.pl = -9 := if_neg (by omega)
    refine ev_b bX7_isLetter_34_35 (lv' := [(0, .ref 0)]) (st' := [.int (nI (0))]) (w2 := modW 0 S X K) rfl ?_
    exact ev_zret dX7_isLetter_35 rfl rfl mod_le (Nat.le_refl _) (Nat.le_refl _) ⟨(congrArg (fun t => some (Value.int (nI t))) (b01_f (by rw [hsg]; unfold isSm; omega)).symm), rfl⟩
  · skip
    have hl := hL X.pl (by omega)
    have hsg : sgz X.lt X.ty X.pl = ((X.lt X.pl : Nat) : Int) := if_pos (by omega)
    refine ev_b bX7_isLetter_11_19 (lv' := [(0, .ref 0)]) (st' := [.int (nI (X.pl)), .ref 11]) (w2 := modW 0 S X K) rfl ?_
    refine ev_iald_n (f := X.lt) dX7_isLetter_19 rfl (by omega) (by decide) ?_
    refine ev_b bX7_isLetter_20_24 (lv' := [(0, .ref 0)]) (st' := [.int (nI (122)), .int (nI (97)), .int (nI (X.lt X.pl))]) (w2 := modW 0 S X K) rfl ?_
    refine ev_callS (Yc := mX7_isIn) [] dX7_isLetter_24 tw_1036 kX7_isIn (m_X7_isIn_n (X.lt X.pl) 97 122 (by omega) (by decide) (by decide)) rfl (st := []) rfl (by decide) rfl (by decide) (Nat.le_of_ble_eq_true rfl) (Nat.le_refl _) (Nat.le_refl _) (fun r w' h => by obtain ⟨-, rfl⟩ := h; exact Nat.le_of_ble_eq_true rfl) ?_
    rintro _ _ ⟨rfl, rfl⟩
    refine ev_eq (lv' := [(0, .ref 0)]) (st' := [.int (nI (b01 (97 ≤ X.lt X.pl ∧ X.lt X.pl ≤ 122)))]) (w' := modW 0 S X K) rfl rfl rfl ?_
    refine ev_ifeq_b (tgt := 34) dX7_isLetter_27 (by decide) (fun h27 => ?_) (fun h27 => ?_)
    · skip
      refine ev_b bX7_isLetter_34_35 (lv' := [(0, .ref 0)]) (st' := [.int (nI (0))]) (w2 := modW 0 S X K) rfl ?_
      exact ev_zret dX7_isLetter_35 rfl rfl mod_le (Nat.le_refl _) (Nat.le_refl _) ⟨(congrArg (fun t => some (Value.int (nI t))) (b01_f (by rw [hsg]; unfold isSm; omega)).symm), rfl⟩
    · skip
      refine ev_b bX7_isLetter_30_35 (lv' := [(0, .ref 0)]) (st' := [.int (nI (1))]) (w2 := modW 0 S X K) rfl ?_
      exact ev_zret dX7_isLetter_35 rfl rfl mod_le (Nat.le_refl _) (Nat.le_refl _) ⟨(congrArg (fun t => some (Value.int (nI t))) (b01_t (by rw [hsg]; unfold isSm; omega)).symm), rfl⟩
theorem bX7_isDigit_0_8 {l : Launch} {E : XE} : Snd l E mX7_isDigit 0 8 (xs [x_aload 0, x_get 8 16, x_aload 0, x_get 8 15]) := Snd.cons (snd_aload_n (i := 0) dX7_isDigit_0 rfl) (Snd.cons (snd_get (ci := 8) (k := 16) dX7_isDigit_1 rfl inX7 (by decide) tw_930) (Snd.cons (snd_aload_n (i := 0) dX7_isDigit_4 rfl) (Snd.cons (snd_get (ci := 8) (k := 15) dX7_isDigit_5 rfl inX7 (by decide) tw_929) Snd.nil)))
theorem bX7_isDigit_34_35 {l : Launch} {E : XE} : Snd l E mX7_isDigit 34 35 (xs [x_push (.int (nI 0))]) := Snd.cons (snd_iconst (v := nI 0) dX7_isDigit_34 (by decide)) Snd.nil
theorem bX7_isDigit_11_19 {l : Launch} {E : XE} : Snd l E mX7_isDigit 11 19 (xs [x_aload 0, x_get 8 14, x_aload 0, x_get 8 16]) := Snd.cons (snd_aload_n (i := 0) dX7_isDigit_11 rfl) (Snd.cons (snd_get (ci := 8) (k := 14) dX7_isDigit_12 rfl inX7 (by decide) tw_928) (Snd.cons (snd_aload_n (i := 0) dX7_isDigit_15 rfl) (Snd.cons (snd_get (ci := 8) (k := 16) dX7_isDigit_16 rfl inX7 (by decide) tw_930) Snd.nil)))
theorem bX7_isDigit_20_24 {l : Launch} {E : XE} : Snd l E mX7_isDigit 20 24 (xs [x_push (.int (nI 48)), x_push (.int (nI 57))]) := Snd.cons (snd_bipush (v := nI 48) dX7_isDigit_20 (by decide)) (Snd.cons (snd_bipush (v := nI 57) dX7_isDigit_22 (by decide)) Snd.nil)
theorem bX7_isDigit_30_35 {l : Launch} {E : XE} : Snd l E mX7_isDigit 30 35 (xs [x_push (.int (nI 1)), x_id]) := Snd.cons (snd_iconst (v := nI 1) dX7_isDigit_30 (by decide)) (Snd.cons (snd_goto (tgt := 35) dX7_isDigit_31 (by decide)) Snd.nil)
set_option maxHeartbeats 4000000 in
set_option maxRecDepth 100000 in
theorem m_X7_isDigit {l : Launch} {E : XE} (S : SaleN) (X : ModN) (K : Option (Nat → Nat)) (hT : X.ty ≤ 96) (hL : ∀ k, k < X.ty → X.lt k ≤ 255) (hp : X.pl ≤ 96) : MetE l E mX7_isDigit (1) 0 0 [.ref 0] (modW 0 S X K) (fun r w' => r = some (.int (nI (b01 (isDg (sgz X.lt X.ty X.pl))))) ∧ w' = modW 0 S X K) := by
  refine MetE.of (by decide +kernel) (Nat.le_of_ble_eq_true rfl) ?_
  refine ev_eq (lv' := [(0, .ref 0)]) (st' := []) (w' := modW 0 S X K) rfl rfl rfl ?_
  refine ev_b bX7_isDigit_0_8 (lv' := [(0, .ref 0)]) (st' := [.int (nI (X.ty)), .int (nI (X.pl))]) (w2 := modW 0 S X K) rfl ?_
  refine ev_icmp_ge_n (tgt := 34) (by omega) (by omega) dX7_isDigit_8 (by decide) (fun h8 => ?_) (fun h8 => ?_)
  · skip
    have hsg : sgz X.lt X.ty X.pl = -9 := if_neg (by omega)
    refine ev_b bX7_isDigit_34_35 (lv' := [(0, .ref 0)]) (st' := [.int (nI (0))]) (w2 := modW 0 S X K) rfl ?_
    exact ev_zret dX7_isDigit_35 rfl rfl mod_le (Nat.le_refl _) (Nat.le_refl _) ⟨(congrArg (fun t => some (Value.int (nI t))) (b01_f (by rw [hsg]; unfold isDg; omega)).symm), rfl⟩
  · skip
    have hl := hL X.pl (by omega)
    have hsg : sgz X.lt X.ty X.pl = ((X.lt X.pl : Nat) : Int) := if_pos (by omega)
    refine ev_b bX7_isDigit_11_19 (lv' := [(0, .ref 0)]) (st' := [.int (nI (X.pl)), .ref 11]) (w2 := modW 0 S X K) rfl ?_
    refine ev_iald_n (f := X.lt) dX7_isDigit_19 rfl (by omega) (by decide) ?_
    refine ev_b bX7_isDigit_20_24 (lv' := [(0, .ref 0)]) (st' := [.int (nI (57)), .int (nI (48)), .int (nI (X.lt X.pl))]) (w2 := modW 0 S X K) rfl ?_
    refine ev_callS (Yc := mX7_isIn) [] dX7_isDigit_24 tw_1036 kX7_isIn (m_X7_isIn_n (X.lt X.pl) 48 57 (by omega) (by decide) (by decide)) rfl (st := []) rfl (by decide) rfl (by decide) (Nat.le_of_ble_eq_true rfl) (Nat.le_refl _) (Nat.le_refl _) (fun r w' h => by obtain ⟨-, rfl⟩ := h; exact Nat.le_of_ble_eq_true rfl) ?_
    rintro _ _ ⟨rfl, rfl⟩
    refine ev_eq (lv' := [(0, .ref 0)]) (st' := [.int (nI (b01 (48 ≤ X.lt X.pl ∧ X.lt X.pl ≤ 57)))]) (w' := modW 0 S X K) rfl rfl rfl ?_
    refine ev_ifeq_b (tgt := 34) dX7_isDigit_27 (by decide) (fun h27 => ?_) (fun h27 => ?_)
    · skip
      refine ev_b bX7_isDigit_34_35 (lv' := [(0, .ref 0)]) (st' := [.int (nI (0))]) (w2 := modW 0 S X K) rfl ?_
      exact ev_zret dX7_isDigit_35 rfl rfl mod_le (Nat.le_refl _) (Nat.le_refl _) ⟨(congrArg (fun t => some (Value.int (nI t))) (b01_f (by rw [hsg]; unfold isDg; omega)).symm), rfl⟩
    · skip
      refine ev_b bX7_isDigit_30_35 (lv' := [(0, .ref 0)]) (st' := [.int (nI (1))]) (w2 := modW 0 S X K) rfl ?_
      exact ev_zret dX7_isDigit_35 rfl rfl mod_le (Nat.le_refl _) (Nat.le_refl _) ⟨(congrArg (fun t => some (Value.int (nI t))) (b01_t (by rw [hsg]; unfold isDg; omega)).symm), rfl⟩
theorem bX7_isNext_0_8 {l : Launch} {E : XE} : Snd l E mX7_isNext 0 8 (xs [x_aload 0, x_get 8 16, x_aload 0, x_get 8 15]) := Snd.cons (snd_aload_n (i := 0) dX7_isNext_0 rfl) (Snd.cons (snd_get (ci := 8) (k := 16) dX7_isNext_1 rfl inX7 (by decide) tw_930) (Snd.cons (snd_aload_n (i := 0) dX7_isNext_4 rfl) (Snd.cons (snd_get (ci := 8) (k := 15) dX7_isNext_5 rfl inX7 (by decide) tw_929) Snd.nil)))
theorem bX7_isNext_24_25 {l : Launch} {E : XE} : Snd l E mX7_isNext 24 25 (xs [x_push (.int (nI 0))]) := Snd.cons (snd_iconst (v := nI 0) dX7_isNext_24 (by decide)) Snd.nil
theorem bX7_isNext_11_19 {l : Launch} {E : XE} : Snd l E mX7_isNext 11 19 (xs [x_aload 0, x_get 8 14, x_aload 0, x_get 8 16]) := Snd.cons (snd_aload_n (i := 0) dX7_isNext_11 rfl) (Snd.cons (snd_get (ci := 8) (k := 14) dX7_isNext_12 rfl inX7 (by decide) tw_928) (Snd.cons (snd_aload_n (i := 0) dX7_isNext_15 rfl) (Snd.cons (snd_get (ci := 8) (k := 16) dX7_isNext_16 rfl inX7 (by decide) tw_930) Snd.nil)))
theorem bX7_isNext_20_21 {l : Launch} {E : XE} : Snd l E mX7_isNext 20 21 (xs [x_iload 1]) := Snd.cons (snd_iload_n (i := 1) dX7_isNext_20 rfl) Snd.nil
theorem bX7_isNext_26_32 {l : Launch} {E : XE} : Snd l E mX7_isNext 26 32 (xs [x_aload 0, x_dup, x_get 8 16, x_push (.int (nI 1))]) := Snd.cons (snd_aload_n (i := 0) dX7_isNext_26 rfl) (Snd.cons (snd_dup dX7_isNext_27) (Snd.cons (snd_get (ci := 8) (k := 16) dX7_isNext_28 rfl inX7 (by decide) tw_930) (Snd.cons (snd_iconst (v := nI 1) dX7_isNext_31 (by decide)) Snd.nil)))
theorem bX7_isNext_33_37 {l : Launch} {E : XE} : Snd l E mX7_isNext 33 37 (xs [x_puti 8 16, x_push (.int (nI 1))]) := Snd.cons (snd_puti (ci := 8) (k := 16) dX7_isNext_33 rfl inX7 tyX7_ok nmX7 (by decide) tw_930 rfl rfl) (Snd.cons (snd_iconst (v := nI 1) dX7_isNext_36 (by decide)) Snd.nil)
set_option maxHeartbeats 4000000 in
set_option maxRecDepth 100000 in
theorem m_X7_isNext {l : Launch} {E : XE} (S : SaleN) (X : ModN) (K : Option (Nat → Nat)) (s : Nat) (hT : X.ty ≤ 96) (hL : ∀ k, k < X.ty → X.lt k ≤ 255) (hp : X.pl ≤ 96) (hs : s ≤ 255) : MetE l E mX7_isNext (0) 0 0 [.ref 0, .int (nI (s))] (modW 0 S X K) (fun r w' => r = some (.int (nI (b01 (sgz X.lt X.ty X.pl = ((s : Nat) : Int))))) ∧ w' = modW 0 S ((X.rf, X.wo, X.ta, X.ow, X.sl, X.sh, X.lt, X.ty, (if sgz X.lt X.ty X.pl = ((s : Nat) : Int) then X.pl + 1 else X.pl), X.nu, X.od, X.tt, X.oo, X.on, X.wn, X.pd, X.li, X.rr, X.rn, X.dr) : ModN) K) := by
  refine MetE.of (by decide +kernel) (Nat.le_of_ble_eq_true rfl) ?_
  refine ev_eq (lv' := [(0, .ref 0), (1, .int (nI (s)))]) (st' := []) (w' := modW 0 S X K) rfl rfl rfl ?_
  refine ev_b bX7_isNext_0_8 (lv' := [(0, .ref 0), (1, .int (nI (s)))]) (st' := [.int (nI (X.ty)), .int (nI (X.pl))]) (w2 := modW 0 S X K) rfl ?_
  refine ev_icmp_ge_n (tgt := 24) (by omega) (by omega) dX7_isNext_8 (by decide) (fun h8 => ?_) (fun h8 => ?_)
  · skip
    have hsg : sgz X.lt X.ty X.pl = -9 := if_neg (by omega)
    refine ev_b bX7_isNext_24_25 (lv' := [(0, .ref 0), (1, .int (nI (s)))]) (st' := [.int (nI (0))]) (w2 := modW 0 S X K) rfl ?_
    exact ev_zret dX7_isNext_25 rfl rfl mod_le (Nat.le_refl _) (Nat.le_refl _) ⟨(congrArg (fun t => some (Value.int (nI t))) (b01_f (by omega)).symm), (by rw [if_neg (by omega)])⟩
  · skip
    have hl := hL X.pl (by omega)
    have hsg : sgz X.lt X.ty X.pl = ((X.lt X.pl : Nat) : Int) := if_pos (by omega)
    refine ev_b bX7_isNext_11_19 (lv' := [(0, .ref 0), (1, .int (nI (s)))]) (st' := [.int (nI (X.pl)), .ref 11]) (w2 := modW 0 S X K) rfl ?_
    refine ev_iald_n (f := X.lt) dX7_isNext_19 rfl (by omega) (by decide) ?_
    refine ev_b bX7_isNext_20_21 (lv' := [(0, .ref 0), (1, .int (nI (s)))]) (st' := [.int (nI (s)), .int (nI (X.lt X.pl))]) (w2 := modW 0 S X K) rfl ?_
    refine ev_icmp_eq_n (tgt := 26) (by omega) (by omega) dX7_isNext_21 (by decide) (fun h21 => ?_) (fun h21 => ?_)
    · skip
      refine ev_b bX7_isNext_26_32 (lv' := [(0, .ref 0), (1, .int (nI (s)))]) (st' := [.int (nI (1)), .int (nI (X.pl)), .ref 0]) (w2 := modW 0 S X K) rfl ?_
      refine ev_iadd_n dX7_isNext_32 ?_
      refine ev_b bX7_isNext_33_37 (lv' := [(0, .ref 0), (1, .int (nI (s)))]) (st' := [.int (nI (1))]) (w2 := modW 0 S ((X.rf, X.wo, X.ta, X.ow, X.sl, X.sh, X.lt, X.ty, X.pl + 1, X.nu, X.od, X.tt, X.oo, X.on, X.wn, X.pd, X.li, X.rr, X.rn, X.dr) : ModN) K) rfl ?_
      exact ev_zret dX7_isNext_37 rfl rfl mod_le (Nat.le_refl _) (Nat.le_refl _) ⟨(congrArg (fun t => some (Value.int (nI t))) (b01_t (by omega)).symm), (by rw [if_pos (by omega)])⟩
    · skip
      refine ev_b bX7_isNext_24_25 (lv' := [(0, .ref 0), (1, .int (nI (s)))]) (st' := [.int (nI (0))]) (w2 := modW 0 S X K) rfl ?_
      exact ev_zret dX7_isNext_25 rfl rfl mod_le (Nat.le_refl _) (Nat.le_refl _) ⟨(congrArg (fun t => some (Value.int (nI t))) (b01_f (by omega)).symm), (by rw [if_neg (by omega)])⟩
theorem bX7_part_0_8 {l : Launch} {E : XE} : Snd l E mX7_part 0 8 (xs [x_aload 0, x_push (.int (nI 0)), x_puti 8 19, x_iload 1, x_push (.int (nI 110))]) := Snd.cons (snd_aload_n (i := 0) dX7_part_0 rfl) (Snd.cons (snd_iconst (v := nI 0) dX7_part_1 (by decide)) (Snd.cons (snd_puti (ci := 8) (k := 19) dX7_part_2 rfl inX7 tyX7_ok nmX7 (by decide) tw_933 rfl rfl) (Snd.cons (snd_iload_n (i := 1) dX7_part_5 rfl) (Snd.cons (snd_bipush (v := nI 110) dX7_part_6 (by decide)) Snd.nil))))
theorem bX7_part_11_12 {l : Launch} {E : XE} : Snd l E mX7_part 11 12 (xs [x_aload 0]) := Snd.cons (snd_aload_n (i := 0) dX7_part_11 rfl) Snd.nil
theorem bX7_part_20_29 {l : Launch} {E : XE} : Snd l E mX7_part 20 29 (xs [x_aload 0, x_aload 0, x_get 8 14, x_aload 0, x_get 8 16]) := Snd.cons (snd_aload_n (i := 0) dX7_part_20 rfl) (Snd.cons (snd_aload_n (i := 0) dX7_part_21 rfl) (Snd.cons (snd_get (ci := 8) (k := 14) dX7_part_22 rfl inX7 (by decide) tw_928) (Snd.cons (snd_aload_n (i := 0) dX7_part_25 rfl) (Snd.cons (snd_get (ci := 8) (k := 16) dX7_part_26 rfl inX7 (by decide) tw_930) Snd.nil))))
theorem bX7_part_30_32 {l : Launch} {E : XE} : Snd l E mX7_part 30 32 (xs [x_push (.int (nI 48))]) := Snd.cons (snd_bipush (v := nI 48) dX7_part_30 (by decide)) Snd.nil
theorem bX7_part_33_42 {l : Launch} {E : XE} : Snd l E mX7_part 33 42 (xs [x_puti 8 19, x_aload 0, x_dup, x_get 8 16, x_push (.int (nI 1))]) := Snd.cons (snd_puti (ci := 8) (k := 19) dX7_part_33 rfl inX7 tyX7_ok nmX7 (by decide) tw_933 rfl rfl) (Snd.cons (snd_aload_n (i := 0) dX7_part_36 rfl) (Snd.cons (snd_dup dX7_part_37) (Snd.cons (snd_get (ci := 8) (k := 16) dX7_part_38 rfl inX7 (by decide) tw_930) (Snd.cons (snd_iconst (v := nI 1) dX7_part_41 (by decide)) Snd.nil))))
theorem bX7_part_43_47 {l : Launch} {E : XE} : Snd l E mX7_part 43 47 (xs [x_puti 8 16, x_aload 0]) := Snd.cons (snd_puti (ci := 8) (k := 16) dX7_part_43 rfl inX7 tyX7_ok nmX7 (by decide) tw_930 rfl rfl) (Snd.cons (snd_aload_n (i := 0) dX7_part_46 rfl) Snd.nil)
theorem bX7_part_55_62 {l : Launch} {E : XE} : Snd l E mX7_part 55 62 (xs [x_aload 0, x_push (.int (nI 10)), x_aload 0, x_get 8 19]) := Snd.cons (snd_aload_n (i := 0) dX7_part_55 rfl) (Snd.cons (snd_bipush (v := nI 10) dX7_part_56 (by decide)) (Snd.cons (snd_aload_n (i := 0) dX7_part_58 rfl) (Snd.cons (snd_get (ci := 8) (k := 19) dX7_part_59 rfl inX7 (by decide) tw_933) Snd.nil)))
theorem bX7_part_63_71 {l : Launch} {E : XE} : Snd l E mX7_part 63 71 (xs [x_aload 0, x_get 8 14, x_aload 0, x_get 8 16]) := Snd.cons (snd_aload_n (i := 0) dX7_part_63 rfl) (Snd.cons (snd_get (ci := 8) (k := 14) dX7_part_64 rfl inX7 (by decide) tw_928) (Snd.cons (snd_aload_n (i := 0) dX7_part_67 rfl) (Snd.cons (snd_get (ci := 8) (k := 16) dX7_part_68 rfl inX7 (by decide) tw_930) Snd.nil)))
theorem bX7_part_73_75 {l : Launch} {E : XE} : Snd l E mX7_part 73 75 (xs [x_push (.int (nI 48))]) := Snd.cons (snd_bipush (v := nI 48) dX7_part_73 (by decide)) Snd.nil
theorem bX7_part_76_85 {l : Launch} {E : XE} : Snd l E mX7_part 76 85 (xs [x_puti 8 19, x_aload 0, x_dup, x_get 8 16, x_push (.int (nI 1))]) := Snd.cons (snd_puti (ci := 8) (k := 19) dX7_part_76 rfl inX7 tyX7_ok nmX7 (by decide) tw_933 rfl rfl) (Snd.cons (snd_aload_n (i := 0) dX7_part_79 rfl) (Snd.cons (snd_dup dX7_part_80) (Snd.cons (snd_get (ci := 8) (k := 16) dX7_part_81 rfl inX7 (by decide) tw_930) (Snd.cons (snd_iconst (v := nI 1) dX7_part_84 (by decide)) Snd.nil))))
theorem bX7_part_86_90 {l : Launch} {E : XE} : Snd l E mX7_part 86 90 (xs [x_puti 8 16, x_push (.int (nI 1))]) := Snd.cons (snd_puti (ci := 8) (k := 16) dX7_part_86 rfl inX7 tyX7_ok nmX7 (by decide) tw_930 rfl rfl) (Snd.cons (snd_iconst (v := nI 1) dX7_part_89 (by decide)) Snd.nil)
theorem bX7_part_53_54 {l : Launch} {E : XE} : Snd l E mX7_part 53 54 (xs [x_push (.int (nI 1))]) := Snd.cons (snd_iconst (v := nI 1) dX7_part_53 (by decide)) Snd.nil
theorem bX7_part_18_19 {l : Launch} {E : XE} : Snd l E mX7_part 18 19 (xs [x_push (.int (nI 0))]) := Snd.cons (snd_iconst (v := nI 0) dX7_part_18 (by decide)) Snd.nil
set_option maxHeartbeats 4000000 in
set_option maxRecDepth 100000 in
theorem m_X7_part_n {l : Launch} {E : XE} (S : SaleN) (X : ModN) (K : Option (Nat → Nat)) (hT : X.ty ≤ 96) (hL : ∀ k, k < X.ty → X.lt k ≤ 255) (hp : X.pl ≤ 96) : MetE l E mX7_part (2) 0 0 [.ref 0, .int (nI (110))] (modW 0 S X K) (fun r w' => r = some (.int (nI (b01 ((rdNum X.lt X.ty (X.pl, -9)).2.2 = -9)))) ∧ w' = modW 0 S ((X.rf, X.wo, X.ta, X.ow, X.sl, X.sh, X.lt, X.ty, (rdNum X.lt X.ty (X.pl, -9)).2.1, (rdNum X.lt X.ty (X.pl, -9)).1, X.od, X.tt, X.oo, X.on, X.wn, X.pd, X.li, X.rr, X.rn, X.dr) : ModN) K) := by
  refine MetE.of (by decide +kernel) (Nat.le_of_ble_eq_true rfl) ?_
  refine ev_eq (lv' := [(0, .ref 0), (1, .int (nI (110)))]) (st' := []) (w' := modW 0 S X K) rfl rfl rfl ?_
  refine ev_b bX7_part_0_8 (lv' := [(0, .ref 0), (1, .int (nI (110)))]) (st' := [.int (nI (110)), .int (nI (110))]) (w2 := modW 0 S ((X.rf, X.wo, X.ta, X.ow, X.sl, X.sh, X.lt, X.ty, X.pl, 0, X.od, X.tt, X.oo, X.on, X.wn, X.pd, X.li, X.rr, X.rn, X.dr) : ModN) K) rfl ?_
  refine ev_icmp_ne_n (tgt := 91) (by decide) (by decide) dX7_part_8 (by decide) (fun h8 => (by exfalso; omega)) (fun h8 => ?_)
  refine ev_b bX7_part_11_12 (lv' := [(0, .ref 0), (1, .int (nI (110)))]) (st' := [.ref 0]) (w2 := modW 0 S ((X.rf, X.wo, X.ta, X.ow, X.sl, X.sh, X.lt, X.ty, X.pl, 0, X.od, X.tt, X.oo, X.on, X.wn, X.pd, X.li, X.rr, X.rn, X.dr) : ModN) K) rfl ?_
  refine ev_callM (Yc := mX7_isDigit) (st := []) dX7_part_12 tw_1053 kX7_isDigit (m_X7_isDigit S ((X.rf, X.wo, X.ta, X.ow, X.sl, X.sh, X.lt, X.ty, X.pl, 0, X.od, X.tt, X.oo, X.on, X.wn, X.pd, X.li, X.rr, X.rn, X.dr) : ModN) K hT hL (show X.pl ≤ 96 by omega)) rfl rfl rfl rfl (by decide) (Nat.le_of_ble_eq_true rfl) (Nat.le_refl _) (Nat.le_refl _) (fun r w' h => by obtain ⟨-, rfl⟩ := h; exact mod_eq) ?_
  rintro _ _ ⟨rfl, rfl⟩
  refine ev_eq (lv' := [(0, .ref 0), (1, .int (nI (110)))]) (st' := [.int (nI (b01 (isDg (sgz X.lt X.ty (X.pl)))))]) (w' := modW 0 S ((X.rf, X.wo, X.ta, X.ow, X.sl, X.sh, X.lt, X.ty, X.pl, 0, X.od, X.tt, X.oo, X.on, X.wn, X.pd, X.li, X.rr, X.rn, X.dr) : ModN) K) rfl rfl rfl ?_
  refine ev_ifne_b (tgt := 20) dX7_part_15 (by decide) (fun h15 => ?_) (fun h15 => ?_)
  · skip
    have hsg0 := sgz_lt (lt := X.lt) (n := X.ty) (p := X.pl) (by omega)
    have hd0 : 48 ≤ X.lt X.pl ∧ X.lt X.pl ≤ 57 := by omega
    refine ev_b bX7_part_20_29 (lv' := [(0, .ref 0), (1, .int (nI (110)))]) (st' := [.int (nI (X.pl)), .ref 11, .ref 0]) (w2 := modW 0 S ((X.rf, X.wo, X.ta, X.ow, X.sl, X.sh, X.lt, X.ty, X.pl, 0, X.od, X.tt, X.oo, X.on, X.wn, X.pd, X.li, X.rr, X.rn, X.dr) : ModN) K) rfl ?_
    refine ev_iald_n (f := X.lt) dX7_part_29 rfl (by omega) (by decide) ?_
    refine ev_b bX7_part_30_32 (lv' := [(0, .ref 0), (1, .int (nI (110)))]) (st' := [.int (nI (48)), .int (nI (X.lt X.pl)), .ref 0]) (w2 := modW 0 S ((X.rf, X.wo, X.ta, X.ow, X.sl, X.sh, X.lt, X.ty, X.pl, 0, X.od, X.tt, X.oo, X.on, X.wn, X.pd, X.li, X.rr, X.rn, X.dr) : ModN) K) rfl ?_
    refine ev_isub_n (by omega) dX7_part_32 ?_
    refine ev_b bX7_part_33_42 (lv' := [(0, .ref 0), (1, .int (nI (110)))]) (st' := [.int (nI (1)), .int (nI (X.pl)), .ref 0]) (w2 := modW 0 S ((X.rf, X.wo, X.ta, X.ow, X.sl, X.sh, X.lt, X.ty, X.pl, (X.lt X.pl) - 48, X.od, X.tt, X.oo, X.on, X.wn, X.pd, X.li, X.rr, X.rn, X.dr) : ModN) K) rfl ?_
    refine ev_iadd_n dX7_part_42 ?_
    refine ev_b bX7_part_43_47 (lv' := [(0, .ref 0), (1, .int (nI (110)))]) (st' := [.ref 0]) (w2 := modW 0 S ((X.rf, X.wo, X.ta, X.ow, X.sl, X.sh, X.lt, X.ty, X.pl + 1, (X.lt X.pl) - 48, X.od, X.tt, X.oo, X.on, X.wn, X.pd, X.li, X.rr, X.rn, X.dr) : ModN) K) rfl ?_
    refine ev_callM (Yc := mX7_isDigit) (st := []) dX7_part_47 tw_1053 kX7_isDigit (m_X7_isDigit S ((X.rf, X.wo, X.ta, X.ow, X.sl, X.sh, X.lt, X.ty, X.pl + 1, (X.lt X.pl) - 48, X.od, X.tt, X.oo, X.on, X.wn, X.pd, X.li, X.rr, X.rn, X.dr) : ModN) K hT hL (show X.pl + 1 ≤ 96 by omega)) rfl rfl rfl rfl (by decide) (Nat.le_of_ble_eq_true rfl) (Nat.le_refl _) (Nat.le_refl _) (fun r w' h => by obtain ⟨-, rfl⟩ := h; exact mod_eq) ?_
    rintro _ _ ⟨rfl, rfl⟩
    refine ev_eq (lv' := [(0, .ref 0), (1, .int (nI (110)))]) (st' := [.int (nI (b01 (isDg (sgz X.lt X.ty (X.pl + 1)))))]) (w' := modW 0 S ((X.rf, X.wo, X.ta, X.ow, X.sl, X.sh, X.lt, X.ty, X.pl + 1, (X.lt X.pl) - 48, X.od, X.tt, X.oo, X.on, X.wn, X.pd, X.li, X.rr, X.rn, X.dr) : ModN) K) rfl rfl rfl ?_
    refine ev_ifne_b (tgt := 55) dX7_part_50 (by decide) (fun h50 => ?_) (fun h50 => ?_)
    · skip
      have hsg1 := sgz_lt (lt := X.lt) (n := X.ty) (p := X.pl + 1) (by omega)
      have hd1 : 48 ≤ X.lt (X.pl + 1) ∧ X.lt (X.pl + 1) ≤ 57 := by omega
      have e9 : rdNum X.lt X.ty (X.pl, -9) = (10 * (X.lt X.pl - 48) + X.lt (X.pl + 1) - 48, (X.pl + 2, -9)) := (if_pos rfl).trans ((if_pos h15).trans (if_pos h50))
      refine ev_b bX7_part_55_62 (lv' := [(0, .ref 0), (1, .int (nI (110)))]) (st' := [.int (nI ((X.lt X.pl) - 48)), .int (nI (10)), .ref 0]) (w2 := modW 0 S ((X.rf, X.wo, X.ta, X.ow, X.sl, X.sh, X.lt, X.ty, X.pl + 1, (X.lt X.pl) - 48, X.od, X.tt, X.oo, X.on, X.wn, X.pd, X.li, X.rr, X.rn, X.dr) : ModN) K) rfl ?_
      refine ev_imul_n dX7_part_62 ?_
      refine ev_b bX7_part_63_71 (lv' := [(0, .ref 0), (1, .int (nI (110)))]) (st' := [.int (nI (X.pl + 1)), .ref 11, .int (nI (10 * ((X.lt X.pl) - 48))), .ref 0]) (w2 := modW 0 S ((X.rf, X.wo, X.ta, X.ow, X.sl, X.sh, X.lt, X.ty, X.pl + 1, (X.lt X.pl) - 48, X.od, X.tt, X.oo, X.on, X.wn, X.pd, X.li, X.rr, X.rn, X.dr) : ModN) K) rfl ?_
      refine ev_iald_n (f := X.lt) dX7_part_71 rfl (by omega) (by decide) ?_
      refine ev_iadd_n dX7_part_72 ?_
      refine ev_b bX7_part_73_75 (lv' := [(0, .ref 0), (1, .int (nI (110)))]) (st' := [.int (nI (48)), .int (nI ((10 * ((X.lt X.pl) - 48)) + (X.lt (X.pl + 1)))), .ref 0]) (w2 := modW 0 S ((X.rf, X.wo, X.ta, X.ow, X.sl, X.sh, X.lt, X.ty, X.pl + 1, (X.lt X.pl) - 48, X.od, X.tt, X.oo, X.on, X.wn, X.pd, X.li, X.rr, X.rn, X.dr) : ModN) K) rfl ?_
      refine ev_isub_n (by omega) dX7_part_75 ?_
      refine ev_top (y := nI ((rdNum X.lt X.ty (X.pl, -9)).1)) (congrArg nI (show _ = (rdNum X.lt X.ty (X.pl, -9)).1 from by rw [e9])) ?_
      refine ev_b bX7_part_76_85 (lv' := [(0, .ref 0), (1, .int (nI (110)))]) (st' := [.int (nI (1)), .int (nI (X.pl + 1)), .ref 0]) (w2 := modW 0 S ((X.rf, X.wo, X.ta, X.ow, X.sl, X.sh, X.lt, X.ty, X.pl + 1, (rdNum X.lt X.ty (X.pl, -9)).1, X.od, X.tt, X.oo, X.on, X.wn, X.pd, X.li, X.rr, X.rn, X.dr) : ModN) K) rfl ?_
      refine ev_iadd_n dX7_part_85 ?_
      refine ev_b bX7_part_86_90 (lv' := [(0, .ref 0), (1, .int (nI (110)))]) (st' := [.int (nI (1))]) (w2 := modW 0 S ((X.rf, X.wo, X.ta, X.ow, X.sl, X.sh, X.lt, X.ty, (X.pl + 1) + 1, (rdNum X.lt X.ty (X.pl, -9)).1, X.od, X.tt, X.oo, X.on, X.wn, X.pd, X.li, X.rr, X.rn, X.dr) : ModN) K) rfl ?_
      exact ev_zret dX7_part_90 rfl rfl mod_le (Nat.le_refl _) (Nat.le_refl _) ⟨(congrArg (fun t => some (Value.int (nI t))) (b01_t (by rw [e9])).symm), (by rw [e9])⟩
    · skip
      have e9 : rdNum X.lt X.ty (X.pl, -9) = (X.lt X.pl - 48, (X.pl + 1, -9)) := (if_pos rfl).trans ((if_pos h15).trans (if_neg h50))
      refine ev_b bX7_part_53_54 (lv' := [(0, .ref 0), (1, .int (nI (110)))]) (st' := [.int (nI (1))]) (w2 := modW 0 S ((X.rf, X.wo, X.ta, X.ow, X.sl, X.sh, X.lt, X.ty, X.pl + 1, (X.lt X.pl) - 48, X.od, X.tt, X.oo, X.on, X.wn, X.pd, X.li, X.rr, X.rn, X.dr) : ModN) K) rfl ?_
      exact ev_zret dX7_part_54 rfl rfl mod_le (Nat.le_refl _) (Nat.le_refl _) ⟨(congrArg (fun t => some (Value.int (nI t))) (b01_t (by rw [e9])).symm), (by rw [e9])⟩
  · skip
    have e9 : rdNum X.lt X.ty (X.pl, -9) = (0, (X.pl, ((X.pl : Nat) : Int))) := (if_pos rfl).trans (if_neg h15)
    refine ev_b bX7_part_18_19 (lv' := [(0, .ref 0), (1, .int (nI (110)))]) (st' := [.int (nI (0))]) (w2 := modW 0 S ((X.rf, X.wo, X.ta, X.ow, X.sl, X.sh, X.lt, X.ty, X.pl, 0, X.od, X.tt, X.oo, X.on, X.wn, X.pd, X.li, X.rr, X.rn, X.dr) : ModN) K) rfl ?_
    exact ev_zret dX7_part_19 rfl rfl mod_le (Nat.le_refl _) (Nat.le_refl _) ⟨(congrArg (fun t => some (Value.int (nI t))) (b01_f (by rw [e9]; show ¬ ((X.pl : Nat) : Int) = -9; omega)).symm), (by rw [e9])⟩
theorem bX7_part_91_92 {l : Launch} {E : XE} : Snd l E mX7_part 91 92 (xs [x_aload 0]) := Snd.cons (snd_aload_n (i := 0) dX7_part_91 rfl) Snd.nil
theorem bX7_part_100_105 {l : Launch} {E : XE} : Snd l E mX7_part 100 105 (xs [x_aload 0, x_get 8 16, x_istore 2]) := Snd.cons (snd_aload_n (i := 0) dX7_part_100 rfl) (Snd.cons (snd_get (ci := 8) (k := 16) dX7_part_101 rfl inX7 (by decide) tw_930) (Snd.cons (snd_istore_n (i := 2) dX7_part_104 rfl (by decide)) Snd.nil))
theorem bX7_part_105_106 {l : Launch} {E : XE} : Snd l E mX7_part 105 106 (xs [x_aload 0]) := Snd.cons (snd_aload_n (i := 0) dX7_part_105 rfl) Snd.nil
theorem bX7_part_112_115 {l : Launch} {E : XE} : Snd l E mX7_part 112 115 (xs [x_iload 1, x_push (.int (nI 115))]) := Snd.cons (snd_iload_n (i := 1) dX7_part_112 rfl) (Snd.cons (snd_bipush (v := nI 115) dX7_part_113 (by decide)) Snd.nil)
theorem bX7_part_118_123 {l : Launch} {E : XE} : Snd l E mX7_part 118 123 (xs [x_aload 0, x_get 8 16, x_iload 2]) := Snd.cons (snd_aload_n (i := 0) dX7_part_118 rfl) (Snd.cons (snd_get (ci := 8) (k := 16) dX7_part_119 rfl inX7 (by decide) tw_930) (Snd.cons (snd_iload_n (i := 2) dX7_part_122 rfl) Snd.nil))
theorem bX7_part_126_134 {l : Launch} {E : XE} : Snd l E mX7_part 126 134 (xs [x_aload 0, x_get 8 14, x_aload 0, x_get 8 16]) := Snd.cons (snd_aload_n (i := 0) dX7_part_126 rfl) (Snd.cons (snd_get (ci := 8) (k := 14) dX7_part_127 rfl inX7 (by decide) tw_928) (Snd.cons (snd_aload_n (i := 0) dX7_part_130 rfl) (Snd.cons (snd_get (ci := 8) (k := 16) dX7_part_131 rfl inX7 (by decide) tw_930) Snd.nil)))
theorem bX7_part_135_137 {l : Launch} {E : XE} : Snd l E mX7_part 135 137 (xs [x_push (.int (nI 97))]) := Snd.cons (snd_bipush (v := nI 97) dX7_part_135 (by decide)) Snd.nil
theorem bX7_part_138_144 {l : Launch} {E : XE} : Snd l E mX7_part 138 144 (xs [x_istore 3, x_aload 0, x_aload 0, x_get 8 20]) := Snd.cons (snd_istore_n (i := 3) dX7_part_138 rfl (by decide)) (Snd.cons (snd_aload_n (i := 0) dX7_part_139 rfl) (Snd.cons (snd_aload_n (i := 0) dX7_part_140 rfl) (Snd.cons (snd_get (ci := 8) (k := 20) dX7_part_141 rfl inX7 (by decide) tw_934) Snd.nil)))
theorem bX7_part_147_150 {l : Launch} {E : XE} : Snd l E mX7_part 147 150 (xs [x_iload 3, x_push (.int (nI 6))]) := Snd.cons (snd_iload_n (i := 3) dX7_part_147 rfl) (Snd.cons (snd_bipush (v := nI 6) dX7_part_148 (by decide)) Snd.nil)
theorem bX7_part_164_169 {l : Launch} {E : XE} : Snd l E mX7_part 164 169 (xs [x_push (.int (nI 1)), x_id]) := Snd.cons (snd_iconst (v := nI 1) dX7_part_164 (by decide)) (Snd.cons (snd_goto (tgt := 169) dX7_part_165 (by decide)) Snd.nil)
theorem bX7_part_172_175 {l : Launch} {E : XE} : Snd l E mX7_part 172 175 (xs [x_iload 3, x_push (.int (nI 6))]) := Snd.cons (snd_iload_n (i := 3) dX7_part_172 rfl) (Snd.cons (snd_bipush (v := nI 6) dX7_part_173 (by decide)) Snd.nil)
theorem bX7_part_190_196 {l : Launch} {E : XE} : Snd l E mX7_part 190 196 (xs [x_aload 0, x_dup, x_get 8 16, x_push (.int (nI 1))]) := Snd.cons (snd_aload_n (i := 0) dX7_part_190 rfl) (Snd.cons (snd_dup dX7_part_191) (Snd.cons (snd_get (ci := 8) (k := 16) dX7_part_192 rfl inX7 (by decide) tw_930) (Snd.cons (snd_iconst (v := nI 1) dX7_part_195 (by decide)) Snd.nil)))
theorem bX7_part_197_105 {l : Launch} {E : XE} : Snd l E mX7_part 197 105 (xs [x_puti 8 16, x_id]) := Snd.cons (snd_puti (ci := 8) (k := 16) dX7_part_197 rfl inX7 tyX7_ok nmX7 (by decide) tw_930 rfl rfl) (Snd.cons (snd_goto (tgt := 105) dX7_part_200 (by decide)) Snd.nil)
theorem bX7_part_203_206 {l : Launch} {E : XE} : Snd l E mX7_part 203 206 (xs [x_iload 1, x_push (.int (nI 108))]) := Snd.cons (snd_iload_n (i := 1) dX7_part_203 rfl) (Snd.cons (snd_bipush (v := nI 108) dX7_part_204 (by decide)) Snd.nil)
theorem bX7_part_209_213 {l : Launch} {E : XE} : Snd l E mX7_part 209 213 (xs [x_aload 0, x_get 8 20]) := Snd.cons (snd_aload_n (i := 0) dX7_part_209 rfl) (Snd.cons (snd_get (ci := 8) (k := 20) dX7_part_210 rfl inX7 (by decide) tw_934) Snd.nil)
theorem bX7_part_229_230 {l : Launch} {E : XE} : Snd l E mX7_part 229 230 (xs [x_push (.int (nI 1))]) := Snd.cons (snd_iconst (v := nI 1) dX7_part_229 (by decide)) Snd.nil
theorem bX7_part_153_158 {l : Launch} {E : XE} : Snd l E mX7_part 153 158 (xs [x_aload 0, x_get 8 19, x_iload 3]) := Snd.cons (snd_aload_n (i := 0) dX7_part_153 rfl) (Snd.cons (snd_get (ci := 8) (k := 19) dX7_part_154 rfl inX7 (by decide) tw_933) (Snd.cons (snd_iload_n (i := 3) dX7_part_157 rfl) Snd.nil))
theorem bX7_part_168_169 {l : Launch} {E : XE} : Snd l E mX7_part 168 169 (xs [x_push (.int (nI 0))]) := Snd.cons (snd_iconst (v := nI 0) dX7_part_168 (by decide)) Snd.nil
theorem bX7_part_178_185 {l : Launch} {E : XE} : Snd l E mX7_part 178 185 (xs [x_aload 0, x_dup, x_get 8 19, x_push (.int (nI 1)), x_iload 3]) := Snd.cons (snd_aload_n (i := 0) dX7_part_178 rfl) (Snd.cons (snd_dup dX7_part_179) (Snd.cons (snd_get (ci := 8) (k := 19) dX7_part_180 rfl inX7 (by decide) tw_933) (Snd.cons (snd_iconst (v := nI 1) dX7_part_183 (by decide)) (Snd.cons (snd_iload_n (i := 3) dX7_part_184 rfl) Snd.nil))))
theorem bX7_part_187_196 {l : Launch} {E : XE} : Snd l E mX7_part 187 196 (xs [x_puti 8 19, x_aload 0, x_dup, x_get 8 16, x_push (.int (nI 1))]) := Snd.cons (snd_puti (ci := 8) (k := 19) dX7_part_187 rfl inX7 tyX7_ok nmX7 (by decide) tw_933 rfl rfl) (Snd.cons (snd_aload_n (i := 0) dX7_part_190 rfl) (Snd.cons (snd_dup dX7_part_191) (Snd.cons (snd_get (ci := 8) (k := 16) dX7_part_192 rfl inX7 (by decide) tw_930) (Snd.cons (snd_iconst (v := nI 1) dX7_part_195 (by decide)) Snd.nil))))
theorem bX7_part_216_222 {l : Launch} {E : XE} : Snd l E mX7_part 216 222 (xs [x_aload 0, x_aload 0, x_get 8 14, x_iload 2]) := Snd.cons (snd_aload_n (i := 0) dX7_part_216 rfl) (Snd.cons (snd_aload_n (i := 0) dX7_part_217 rfl) (Snd.cons (snd_get (ci := 8) (k := 14) dX7_part_218 rfl inX7 (by decide) tw_928) (Snd.cons (snd_iload_n (i := 2) dX7_part_221 rfl) Snd.nil)))
theorem bX7_part_223_225 {l : Launch} {E : XE} : Snd l E mX7_part 223 225 (xs [x_push (.int (nI 97))]) := Snd.cons (snd_bipush (v := nI 97) dX7_part_223 (by decide)) Snd.nil
theorem bX7_part_226_229 {l : Launch} {E : XE} : Snd l E mX7_part 226 229 (xs [x_puti 8 19]) := Snd.cons (snd_puti (ci := 8) (k := 19) dX7_part_226 rfl inX7 tyX7_ok nmX7 (by decide) tw_933 rfl rfl) Snd.nil
theorem bX7_part_98_99 {l : Launch} {E : XE} : Snd l E mX7_part 98 99 (xs [x_push (.int (nI 0))]) := Snd.cons (snd_iconst (v := nI 0) dX7_part_98 (by decide)) Snd.nil
set_option maxHeartbeats 4000000 in
set_option maxRecDepth 100000 in
theorem m_X7_part_l {l : Launch} {E : XE} (S : SaleN) (X : ModN) (K : Option (Nat → Nat)) (hT : X.ty ≤ 96) (hL : ∀ k, k < X.ty → X.lt k ≤ 255) (hp : X.pl ≤ 96) (ho : X.od = 0) : MetE l E mX7_part (2) 0 0 [.ref 0, .int (nI (108))] (modW 0 S X K) (fun r w' => r = some (.int (nI (b01 ((rdItem X.lt X.ty (X.pl, -9)).2.2 = -9)))) ∧ w' = modW 0 S ((X.rf, X.wo, X.ta, X.ow, X.sl, X.sh, X.lt, X.ty, (rdItem X.lt X.ty (X.pl, -9)).2.1, (if (rdItem X.lt X.ty (X.pl, -9)).1 < 6 then (rdItem X.lt X.ty (X.pl, -9)).1 else 0), (b01 (6 ≤ (rdItem X.lt X.ty (X.pl, -9)).1)), X.tt, X.oo, X.on, X.wn, X.pd, X.li, X.rr, X.rn, X.dr) : ModN) K) := by
  refine MetE.of (by decide +kernel) (Nat.le_of_ble_eq_true rfl) ?_
  refine ev_eq (lv' := [(0, .ref 0), (1, .int (nI (108)))]) (st' := []) (w' := modW 0 S X K) rfl rfl rfl ?_
  refine ev_b bX7_part_0_8 (lv' := [(0, .ref 0), (1, .int (nI (108)))]) (st' := [.int (nI (110)), .int (nI (108))]) (w2 := modW 0 S ((X.rf, X.wo, X.ta, X.ow, X.sl, X.sh, X.lt, X.ty, X.pl, 0, X.od, X.tt, X.oo, X.on, X.wn, X.pd, X.li, X.rr, X.rn, X.dr) : ModN) K) rfl ?_
  refine ev_icmp_ne_n (tgt := 91) (by decide) (by decide) dX7_part_8 (by decide) (fun h8 => ?_) (fun h8 => (by exfalso; omega))
  refine ev_b bX7_part_91_92 (lv' := [(0, .ref 0), (1, .int (nI (108)))]) (st' := [.ref 0]) (w2 := modW 0 S ((X.rf, X.wo, X.ta, X.ow, X.sl, X.sh, X.lt, X.ty, X.pl, 0, X.od, X.tt, X.oo, X.on, X.wn, X.pd, X.li, X.rr, X.rn, X.dr) : ModN) K) rfl ?_
  refine ev_callM (Yc := mX7_isLetter) (st := []) dX7_part_92 tw_1032 kX7_isLetter (m_X7_isLetter S ((X.rf, X.wo, X.ta, X.ow, X.sl, X.sh, X.lt, X.ty, X.pl, 0, X.od, X.tt, X.oo, X.on, X.wn, X.pd, X.li, X.rr, X.rn, X.dr) : ModN) K hT hL hp) rfl rfl rfl rfl (by decide) (Nat.le_of_ble_eq_true rfl) (Nat.le_refl _) (Nat.le_refl _) (fun r w' h => by obtain ⟨-, rfl⟩ := h; exact mod_eq) ?_
  rintro _ _ ⟨rfl, rfl⟩
  refine ev_eq (lv' := [(0, .ref 0), (1, .int (nI (108)))]) (st' := [.int (nI (b01 (isSm (sgz X.lt X.ty X.pl))))]) (w' := modW 0 S ((X.rf, X.wo, X.ta, X.ow, X.sl, X.sh, X.lt, X.ty, X.pl, 0, X.od, X.tt, X.oo, X.on, X.wn, X.pd, X.li, X.rr, X.rn, X.dr) : ModN) K) rfl rfl rfl ?_
  refine ev_ifne_b (tgt := 100) dX7_part_95 (by decide) (fun h95 => ?_) (fun h95 => ?_)
  · skip
    have hsg0 := sgz_lt (lt := X.lt) (n := X.ty) (p := X.pl) (by omega)
    have hd0 : 97 ≤ X.lt X.pl ∧ X.lt X.pl ≤ 122 := by omega
    have e9 : rdItem X.lt X.ty (X.pl, -9) = (X.lt X.pl - 97, (X.pl + 1, -9)) := (if_pos rfl).trans (if_pos h95)
    refine ev_b bX7_part_100_105 (lv' := [(2, .int (nI (X.pl))), (0, .ref 0), (1, .int (nI (108)))]) (st' := []) (w2 := modW 0 S ((X.rf, X.wo, X.ta, X.ow, X.sl, X.sh, X.lt, X.ty, X.pl, 0, X.od, X.tt, X.oo, X.on, X.wn, X.pd, X.li, X.rr, X.rn, X.dr) : ModN) K) rfl ?_
    refine ev_b bX7_part_105_106 (lv' := [(2, .int (nI (X.pl))), (0, .ref 0), (1, .int (nI (108)))]) (st' := [.ref 0]) (w2 := modW 0 S ((X.rf, X.wo, X.ta, X.ow, X.sl, X.sh, X.lt, X.ty, X.pl, 0, X.od, X.tt, X.oo, X.on, X.wn, X.pd, X.li, X.rr, X.rn, X.dr) : ModN) K) rfl ?_
    refine ev_callM (Yc := mX7_isLetter) (st := []) dX7_part_106 tw_1032 kX7_isLetter (m_X7_isLetter S ((X.rf, X.wo, X.ta, X.ow, X.sl, X.sh, X.lt, X.ty, X.pl, 0, X.od, X.tt, X.oo, X.on, X.wn, X.pd, X.li, X.rr, X.rn, X.dr) : ModN) K hT hL (show X.pl ≤ 96 by omega)) rfl rfl rfl rfl (by decide) (Nat.le_of_ble_eq_true rfl) (Nat.le_refl _) (Nat.le_refl _) (fun r w' h => by obtain ⟨-, rfl⟩ := h; exact mod_eq) ?_
    rintro _ _ ⟨rfl, rfl⟩
    refine ev_eq (lv' := [(2, .int (nI (X.pl))), (0, .ref 0), (1, .int (nI (108)))]) (st' := [.int (nI (b01 (isSm (sgz X.lt X.ty (X.pl)))))]) (w' := modW 0 S ((X.rf, X.wo, X.ta, X.ow, X.sl, X.sh, X.lt, X.ty, X.pl, 0, X.od, X.tt, X.oo, X.on, X.wn, X.pd, X.li, X.rr, X.rn, X.dr) : ModN) K) rfl rfl rfl ?_
    refine ev_ifeq_b (tgt := 203) dX7_part_109 (by decide) (fun h109 => (by exact absurd h95 h109)) (fun h109 => ?_)
    refine ev_b bX7_part_112_115 (lv' := [(2, .int (nI (X.pl))), (0, .ref 0), (1, .int (nI (108)))]) (st' := [.int (nI (115)), .int (nI (108))]) (w2 := modW 0 S ((X.rf, X.wo, X.ta, X.ow, X.sl, X.sh, X.lt, X.ty, X.pl, 0, X.od, X.tt, X.oo, X.on, X.wn, X.pd, X.li, X.rr, X.rn, X.dr) : ModN) K) rfl ?_
    refine ev_icmp_eq_n (tgt := 126) (by decide) (by decide) dX7_part_115 (by decide) (fun h115 => (by exfalso; omega)) (fun h115 => ?_)
    refine ev_b bX7_part_118_123 (lv' := [(2, .int (nI (X.pl))), (0, .ref 0), (1, .int (nI (108)))]) (st' := [.int (nI (X.pl)), .int (nI (X.pl))]) (w2 := modW 0 S ((X.rf, X.wo, X.ta, X.ow, X.sl, X.sh, X.lt, X.ty, X.pl, 0, X.od, X.tt, X.oo, X.on, X.wn, X.pd, X.li, X.rr, X.rn, X.dr) : ModN) K) rfl ?_
    refine ev_icmp_ne_n (tgt := 203) (by omega) (by omega) dX7_part_123 (by decide) (fun h123 => (by exfalso; omega)) (fun h123 => ?_)
    refine ev_b bX7_part_126_134 (lv' := [(2, .int (nI (X.pl))), (0, .ref 0), (1, .int (nI (108)))]) (st' := [.int (nI (X.pl)), .ref 11]) (w2 := modW 0 S ((X.rf, X.wo, X.ta, X.ow, X.sl, X.sh, X.lt, X.ty, X.pl, 0, X.od, X.tt, X.oo, X.on, X.wn, X.pd, X.li, X.rr, X.rn, X.dr) : ModN) K) rfl ?_
    refine ev_iald_n (f := X.lt) dX7_part_134 rfl (by omega) (by decide) ?_
    refine ev_b bX7_part_135_137 (lv' := [(2, .int (nI (X.pl))), (0, .ref 0), (1, .int (nI (108)))]) (st' := [.int (nI (97)), .int (nI (X.lt X.pl))]) (w2 := modW 0 S ((X.rf, X.wo, X.ta, X.ow, X.sl, X.sh, X.lt, X.ty, X.pl, 0, X.od, X.tt, X.oo, X.on, X.wn, X.pd, X.li, X.rr, X.rn, X.dr) : ModN) K) rfl ?_
    refine ev_isub_n (by omega) dX7_part_137 ?_
    refine ev_b bX7_part_138_144 (lv' := [(3, .int (nI ((X.lt X.pl) - 97))), (2, .int (nI (X.pl))), (0, .ref 0), (1, .int (nI (108)))]) (st' := [.int (nI (X.od)), .ref 0]) (w2 := modW 0 S ((X.rf, X.wo, X.ta, X.ow, X.sl, X.sh, X.lt, X.ty, X.pl, 0, X.od, X.tt, X.oo, X.on, X.wn, X.pd, X.li, X.rr, X.rn, X.dr) : ModN) K) rfl ?_
    refine ev_if_ne_n (tgt := 164) (by omega) dX7_part_144 (by decide) (fun h144 => (by exfalso; omega)) (fun h144 => ?_)
    refine ev_b bX7_part_147_150 (lv' := [(3, .int (nI ((X.lt X.pl) - 97))), (2, .int (nI (X.pl))), (0, .ref 0), (1, .int (nI (108)))]) (st' := [.int (nI (6)), .int (nI ((X.lt X.pl) - 97)), .ref 0]) (w2 := modW 0 S ((X.rf, X.wo, X.ta, X.ow, X.sl, X.sh, X.lt, X.ty, X.pl, 0, X.od, X.tt, X.oo, X.on, X.wn, X.pd, X.li, X.rr, X.rn, X.dr) : ModN) K) rfl ?_
    refine ev_icmp_ge_n (tgt := 164) (by omega) (by decide) dX7_part_150 (by decide) (fun h150 => ?_) (fun h150 => ?_)
    · skip
      refine ev_b bX7_part_164_169 (lv' := [(3, .int (nI ((X.lt X.pl) - 97))), (2, .int (nI (X.pl))), (0, .ref 0), (1, .int (nI (108)))]) (st' := [.int (nI (1)), .ref 0]) (w2 := modW 0 S ((X.rf, X.wo, X.ta, X.ow, X.sl, X.sh, X.lt, X.ty, X.pl, 0, X.od, X.tt, X.oo, X.on, X.wn, X.pd, X.li, X.rr, X.rn, X.dr) : ModN) K) rfl ?_
      refine snd_put (ci := 8) (k := 20) (a := 0) dX7_part_169 rfl inX7 tyX7_ok nmX7 (by decide) tw_934 rfl rfl (Nat.le_of_ble_eq_true rfl) (fun _ => rfl) (fun _ => rfl) ?_
      refine ev_eq (w' := modW 0 S ((X.rf, X.wo, X.ta, X.ow, X.sl, X.sh, X.lt, X.ty, X.pl, 0, 1, X.tt, X.oo, X.on, X.wn, X.pd, X.li, X.rr, X.rn, X.dr) : ModN) K) rfl rfl rfl ?_
      refine ev_b bX7_part_172_175 (lv' := [(3, .int (nI ((X.lt X.pl) - 97))), (2, .int (nI (X.pl))), (0, .ref 0), (1, .int (nI (108)))]) (st' := [.int (nI (6)), .int (nI ((X.lt X.pl) - 97))]) (w2 := modW 0 S ((X.rf, X.wo, X.ta, X.ow, X.sl, X.sh, X.lt, X.ty, X.pl, 0, 1, X.tt, X.oo, X.on, X.wn, X.pd, X.li, X.rr, X.rn, X.dr) : ModN) K) rfl ?_
      refine ev_icmp_ge_n (tgt := 190) (by omega) (by decide) dX7_part_175 (by decide) (fun h175 => ?_) (fun h175 => (by exfalso; omega))
      refine ev_b bX7_part_190_196 (lv' := [(3, .int (nI ((X.lt X.pl) - 97))), (2, .int (nI (X.pl))), (0, .ref 0), (1, .int (nI (108)))]) (st' := [.int (nI (1)), .int (nI (X.pl)), .ref 0]) (w2 := modW 0 S ((X.rf, X.wo, X.ta, X.ow, X.sl, X.sh, X.lt, X.ty, X.pl, 0, 1, X.tt, X.oo, X.on, X.wn, X.pd, X.li, X.rr, X.rn, X.dr) : ModN) K) rfl ?_
      refine ev_iadd_n dX7_part_196 ?_
      refine ev_b bX7_part_197_105 (lv' := [(3, .int (nI ((X.lt X.pl) - 97))), (2, .int (nI (X.pl))), (0, .ref 0), (1, .int (nI (108)))]) (st' := []) (w2 := modW 0 S ((X.rf, X.wo, X.ta, X.ow, X.sl, X.sh, X.lt, X.ty, X.pl + 1, 0, 1, X.tt, X.oo, X.on, X.wn, X.pd, X.li, X.rr, X.rn, X.dr) : ModN) K) rfl ?_
      refine ev_b bX7_part_105_106 (lv' := [(3, .int (nI ((X.lt X.pl) - 97))), (2, .int (nI (X.pl))), (0, .ref 0), (1, .int (nI (108)))]) (st' := [.ref 0]) (w2 := modW 0 S ((X.rf, X.wo, X.ta, X.ow, X.sl, X.sh, X.lt, X.ty, X.pl + 1, 0, 1, X.tt, X.oo, X.on, X.wn, X.pd, X.li, X.rr, X.rn, X.dr) : ModN) K) rfl ?_
      refine ev_callM (Yc := mX7_isLetter) (st := []) dX7_part_106 tw_1032 kX7_isLetter (m_X7_isLetter S ((X.rf, X.wo, X.ta, X.ow, X.sl, X.sh, X.lt, X.ty, X.pl + 1, 0, 1, X.tt, X.oo, X.on, X.wn, X.pd, X.li, X.rr, X.rn, X.dr) : ModN) K hT hL (show X.pl + 1 ≤ 96 by omega)) rfl rfl rfl rfl (by decide) (Nat.le_of_ble_eq_true rfl) (Nat.le_refl _) (Nat.le_refl _) (fun r w' h => by obtain ⟨-, rfl⟩ := h; exact mod_eq) ?_
      rintro _ _ ⟨rfl, rfl⟩
      refine ev_eq (lv' := [(3, .int (nI ((X.lt X.pl) - 97))), (2, .int (nI (X.pl))), (0, .ref 0), (1, .int (nI (108)))]) (st' := [.int (nI (b01 (isSm (sgz X.lt X.ty (X.pl + 1)))))]) (w' := modW 0 S ((X.rf, X.wo, X.ta, X.ow, X.sl, X.sh, X.lt, X.ty, X.pl + 1, 0, 1, X.tt, X.oo, X.on, X.wn, X.pd, X.li, X.rr, X.rn, X.dr) : ModN) K) rfl rfl rfl ?_
      refine ev_ifeq_b (tgt := 203) dX7_part_109 (by decide) (fun h109 => ?_) (fun h109 => ?_)
      · skip
        refine ev_b bX7_part_203_206 (lv' := [(3, .int (nI ((X.lt X.pl) - 97))), (2, .int (nI (X.pl))), (0, .ref 0), (1, .int (nI (108)))]) (st' := [.int (nI (108)), .int (nI (108))]) (w2 := modW 0 S ((X.rf, X.wo, X.ta, X.ow, X.sl, X.sh, X.lt, X.ty, X.pl + 1, 0, 1, X.tt, X.oo, X.on, X.wn, X.pd, X.li, X.rr, X.rn, X.dr) : ModN) K) rfl ?_
        refine ev_icmp_ne_n (tgt := 229) (by decide) (by decide) dX7_part_206 (by decide) (fun h206 => (by exfalso; omega)) (fun h206 => ?_)
        refine ev_b bX7_part_209_213 (lv' := [(3, .int (nI ((X.lt X.pl) - 97))), (2, .int (nI (X.pl))), (0, .ref 0), (1, .int (nI (108)))]) (st' := [.int (nI (1))]) (w2 := modW 0 S ((X.rf, X.wo, X.ta, X.ow, X.sl, X.sh, X.lt, X.ty, X.pl + 1, 0, 1, X.tt, X.oo, X.on, X.wn, X.pd, X.li, X.rr, X.rn, X.dr) : ModN) K) rfl ?_
        refine ev_if_ne_n (tgt := 229) (by decide) dX7_part_213 (by decide) (fun h213 => ?_) (fun h213 => (by exfalso; omega))
        have ho1 : b01 (6 ≤ (rdItem X.lt X.ty (X.pl, -9)).1) = 1 := b01_t (by rw [e9]; show  6 ≤ X.lt X.pl - 97; omega)
        have hn1 : (if (rdItem X.lt X.ty (X.pl, -9)).1 < 6 then (rdItem X.lt X.ty (X.pl, -9)).1 else 0) = 0 := by rw [e9]; exact if_neg (show ¬ X.lt X.pl - 97 < 6 by omega)
        refine ev_b bX7_part_229_230 (lv' := [(3, .int (nI ((X.lt X.pl) - 97))), (2, .int (nI (X.pl))), (0, .ref 0), (1, .int (nI (108)))]) (st' := [.int (nI (1))]) (w2 := modW 0 S ((X.rf, X.wo, X.ta, X.ow, X.sl, X.sh, X.lt, X.ty, X.pl + 1, 0, 1, X.tt, X.oo, X.on, X.wn, X.pd, X.li, X.rr, X.rn, X.dr) : ModN) K) rfl ?_
        exact ev_zret dX7_part_230 rfl rfl mod_le (Nat.le_refl _) (Nat.le_refl _) ⟨(congrArg (fun t => some (Value.int (nI t))) (b01_t (by rw [e9])).symm), (by rw [ho1, hn1, e9])⟩
      · skip
        refine ev_b bX7_part_112_115 (lv' := [(3, .int (nI ((X.lt X.pl) - 97))), (2, .int (nI (X.pl))), (0, .ref 0), (1, .int (nI (108)))]) (st' := [.int (nI (115)), .int (nI (108))]) (w2 := modW 0 S ((X.rf, X.wo, X.ta, X.ow, X.sl, X.sh, X.lt, X.ty, X.pl + 1, 0, 1, X.tt, X.oo, X.on, X.wn, X.pd, X.li, X.rr, X.rn, X.dr) : ModN) K) rfl ?_
        refine ev_icmp_eq_n (tgt := 126) (by decide) (by decide) dX7_part_115 (by decide) (fun h115 => (by exfalso; omega)) (fun h115 => ?_)
        refine ev_b bX7_part_118_123 (lv' := [(3, .int (nI ((X.lt X.pl) - 97))), (2, .int (nI (X.pl))), (0, .ref 0), (1, .int (nI (108)))]) (st' := [.int (nI (X.pl)), .int (nI (X.pl + 1))]) (w2 := modW 0 S ((X.rf, X.wo, X.ta, X.ow, X.sl, X.sh, X.lt, X.ty, X.pl + 1, 0, 1, X.tt, X.oo, X.on, X.wn, X.pd, X.li, X.rr, X.rn, X.dr) : ModN) K) rfl ?_
        refine ev_icmp_ne_n (tgt := 203) (by omega) (by omega) dX7_part_123 (by decide) (fun h123 => ?_) (fun h123 => (by exfalso; omega))
        refine ev_b bX7_part_203_206 (lv' := [(3, .int (nI ((X.lt X.pl) - 97))), (2, .int (nI (X.pl))), (0, .ref 0), (1, .int (nI (108)))]) (st' := [.int (nI (108)), .int (nI (108))]) (w2 := modW 0 S ((X.rf, X.wo, X.ta, X.ow, X.sl, X.sh, X.lt, X.ty, X.pl + 1, 0, 1, X.tt, X.oo, X.on, X.wn, X.pd, X.li, X.rr, X.rn, X.dr) : ModN) K) rfl ?_
        refine ev_icmp_ne_n (tgt := 229) (by decide) (by decide) dX7_part_206 (by decide) (fun h206 => (by exfalso; omega)) (fun h206 => ?_)
        refine ev_b bX7_part_209_213 (lv' := [(3, .int (nI ((X.lt X.pl) - 97))), (2, .int (nI (X.pl))), (0, .ref 0), (1, .int (nI (108)))]) (st' := [.int (nI (1))]) (w2 := modW 0 S ((X.rf, X.wo, X.ta, X.ow, X.sl, X.sh, X.lt, X.ty, X.pl + 1, 0, 1, X.tt, X.oo, X.on, X.wn, X.pd, X.li, X.rr, X.rn, X.dr) : ModN) K) rfl ?_
        refine ev_if_ne_n (tgt := 229) (by decide) dX7_part_213 (by decide) (fun h213 => ?_) (fun h213 => (by exfalso; omega))
        have ho1 : b01 (6 ≤ (rdItem X.lt X.ty (X.pl, -9)).1) = 1 := b01_t (by rw [e9]; show  6 ≤ X.lt X.pl - 97; omega)
        have hn1 : (if (rdItem X.lt X.ty (X.pl, -9)).1 < 6 then (rdItem X.lt X.ty (X.pl, -9)).1 else 0) = 0 := by rw [e9]; exact if_neg (show ¬ X.lt X.pl - 97 < 6 by omega)
        refine ev_b bX7_part_229_230 (lv' := [(3, .int (nI ((X.lt X.pl) - 97))), (2, .int (nI (X.pl))), (0, .ref 0), (1, .int (nI (108)))]) (st' := [.int (nI (1))]) (w2 := modW 0 S ((X.rf, X.wo, X.ta, X.ow, X.sl, X.sh, X.lt, X.ty, X.pl + 1, 0, 1, X.tt, X.oo, X.on, X.wn, X.pd, X.li, X.rr, X.rn, X.dr) : ModN) K) rfl ?_
        exact ev_zret dX7_part_230 rfl rfl mod_le (Nat.le_refl _) (Nat.le_refl _) ⟨(congrArg (fun t => some (Value.int (nI t))) (b01_t (by rw [e9])).symm), (by rw [ho1, hn1, e9])⟩
    · skip
      refine ev_b bX7_part_153_158 (lv' := [(3, .int (nI ((X.lt X.pl) - 97))), (2, .int (nI (X.pl))), (0, .ref 0), (1, .int (nI (108)))]) (st' := [.int (nI ((X.lt X.pl) - 97)), .int (nI (0)), .ref 0]) (w2 := modW 0 S ((X.rf, X.wo, X.ta, X.ow, X.sl, X.sh, X.lt, X.ty, X.pl, 0, X.od, X.tt, X.oo, X.on, X.wn, X.pd, X.li, X.rr, X.rn, X.dr) : ModN) K) rfl ?_
      refine ev_callS (Yc := mX7_has) [] dX7_part_158 tw_1057 kX7_has (m_X7_has 0 (X.lt X.pl - 97) (by decide) (by omega)) rfl (st := [.ref 0]) rfl (by decide) rfl (by decide) (Nat.le_of_ble_eq_true rfl) (Nat.le_refl _) (Nat.le_refl _) (fun r w' h => by obtain ⟨-, rfl⟩ := h; exact Nat.le_of_ble_eq_true rfl) ?_
      rintro _ _ ⟨rfl, rfl⟩
      refine ev_eq (lv' := [(3, .int (nI ((X.lt X.pl) - 97))), (2, .int (nI (X.pl))), (0, .ref 0), (1, .int (nI (108)))]) (st' := [.int (nI (b01 ((0 : Nat).testBit (X.lt X.pl - 97) = true))), .ref 0]) (w' := modW 0 S ((X.rf, X.wo, X.ta, X.ow, X.sl, X.sh, X.lt, X.ty, X.pl, 0, X.od, X.tt, X.oo, X.on, X.wn, X.pd, X.li, X.rr, X.rn, X.dr) : ModN) K) rfl rfl rfl ?_
      refine ev_ifeq_b (tgt := 168) dX7_part_161 (by decide) (fun h161 => ?_) (fun h161 => (by exact absurd h161 (by rw [Nat.zero_testBit]; decide)))
      refine ev_b bX7_part_168_169 (lv' := [(3, .int (nI ((X.lt X.pl) - 97))), (2, .int (nI (X.pl))), (0, .ref 0), (1, .int (nI (108)))]) (st' := [.int (nI (0)), .ref 0]) (w2 := modW 0 S ((X.rf, X.wo, X.ta, X.ow, X.sl, X.sh, X.lt, X.ty, X.pl, 0, X.od, X.tt, X.oo, X.on, X.wn, X.pd, X.li, X.rr, X.rn, X.dr) : ModN) K) rfl ?_
      refine snd_put (ci := 8) (k := 20) (a := 0) dX7_part_169 rfl inX7 tyX7_ok nmX7 (by decide) tw_934 rfl rfl (Nat.le_of_ble_eq_true rfl) (fun _ => rfl) (fun _ => rfl) ?_
      refine ev_eq (w' := modW 0 S ((X.rf, X.wo, X.ta, X.ow, X.sl, X.sh, X.lt, X.ty, X.pl, 0, 0, X.tt, X.oo, X.on, X.wn, X.pd, X.li, X.rr, X.rn, X.dr) : ModN) K) rfl rfl rfl ?_
      refine ev_b bX7_part_172_175 (lv' := [(3, .int (nI ((X.lt X.pl) - 97))), (2, .int (nI (X.pl))), (0, .ref 0), (1, .int (nI (108)))]) (st' := [.int (nI (6)), .int (nI ((X.lt X.pl) - 97))]) (w2 := modW 0 S ((X.rf, X.wo, X.ta, X.ow, X.sl, X.sh, X.lt, X.ty, X.pl, 0, 0, X.tt, X.oo, X.on, X.wn, X.pd, X.li, X.rr, X.rn, X.dr) : ModN) K) rfl ?_
      refine ev_icmp_ge_n (tgt := 190) (by omega) (by decide) dX7_part_175 (by decide) (fun h175 => (by exfalso; omega)) (fun h175 => ?_)
      refine ev_b bX7_part_178_185 (lv' := [(3, .int (nI ((X.lt X.pl) - 97))), (2, .int (nI (X.pl))), (0, .ref 0), (1, .int (nI (108)))]) (st' := [.int (nI ((X.lt X.pl) - 97)), .int (nI (1)), .int (nI (0)), .ref 0]) (w2 := modW 0 S ((X.rf, X.wo, X.ta, X.ow, X.sl, X.sh, X.lt, X.ty, X.pl, 0, 0, X.tt, X.oo, X.on, X.wn, X.pd, X.li, X.rr, X.rn, X.dr) : ModN) K) rfl ?_
      refine ev_ishl_n (by omega) dX7_part_185 ?_
      refine ev_ior_n dX7_part_186 ?_
      refine ev_b bX7_part_187_196 (lv' := [(3, .int (nI ((X.lt X.pl) - 97))), (2, .int (nI (X.pl))), (0, .ref 0), (1, .int (nI (108)))]) (st' := [.int (nI (1)), .int (nI (X.pl)), .ref 0]) (w2 := modW 0 S ((X.rf, X.wo, X.ta, X.ow, X.sl, X.sh, X.lt, X.ty, X.pl, 0 ||| (1 <<< ((X.lt X.pl) - 97)), 0, X.tt, X.oo, X.on, X.wn, X.pd, X.li, X.rr, X.rn, X.dr) : ModN) K) rfl ?_
      refine ev_iadd_n dX7_part_196 ?_
      refine ev_b bX7_part_197_105 (lv' := [(3, .int (nI ((X.lt X.pl) - 97))), (2, .int (nI (X.pl))), (0, .ref 0), (1, .int (nI (108)))]) (st' := []) (w2 := modW 0 S ((X.rf, X.wo, X.ta, X.ow, X.sl, X.sh, X.lt, X.ty, X.pl + 1, 0 ||| (1 <<< ((X.lt X.pl) - 97)), 0, X.tt, X.oo, X.on, X.wn, X.pd, X.li, X.rr, X.rn, X.dr) : ModN) K) rfl ?_
      refine ev_b bX7_part_105_106 (lv' := [(3, .int (nI ((X.lt X.pl) - 97))), (2, .int (nI (X.pl))), (0, .ref 0), (1, .int (nI (108)))]) (st' := [.ref 0]) (w2 := modW 0 S ((X.rf, X.wo, X.ta, X.ow, X.sl, X.sh, X.lt, X.ty, X.pl + 1, 0 ||| (1 <<< ((X.lt X.pl) - 97)), 0, X.tt, X.oo, X.on, X.wn, X.pd, X.li, X.rr, X.rn, X.dr) : ModN) K) rfl ?_
      refine ev_callM (Yc := mX7_isLetter) (st := []) dX7_part_106 tw_1032 kX7_isLetter (m_X7_isLetter S ((X.rf, X.wo, X.ta, X.ow, X.sl, X.sh, X.lt, X.ty, X.pl + 1, 0 ||| (1 <<< ((X.lt X.pl) - 97)), 0, X.tt, X.oo, X.on, X.wn, X.pd, X.li, X.rr, X.rn, X.dr) : ModN) K hT hL (show X.pl + 1 ≤ 96 by omega)) rfl rfl rfl rfl (by decide) (Nat.le_of_ble_eq_true rfl) (Nat.le_refl _) (Nat.le_refl _) (fun r w' h => by obtain ⟨-, rfl⟩ := h; exact mod_eq) ?_
      rintro _ _ ⟨rfl, rfl⟩
      refine ev_eq (lv' := [(3, .int (nI ((X.lt X.pl) - 97))), (2, .int (nI (X.pl))), (0, .ref 0), (1, .int (nI (108)))]) (st' := [.int (nI (b01 (isSm (sgz X.lt X.ty (X.pl + 1)))))]) (w' := modW 0 S ((X.rf, X.wo, X.ta, X.ow, X.sl, X.sh, X.lt, X.ty, X.pl + 1, 0 ||| (1 <<< ((X.lt X.pl) - 97)), 0, X.tt, X.oo, X.on, X.wn, X.pd, X.li, X.rr, X.rn, X.dr) : ModN) K) rfl rfl rfl ?_
      refine ev_ifeq_b (tgt := 203) dX7_part_109 (by decide) (fun h109 => ?_) (fun h109 => ?_)
      · skip
        refine ev_b bX7_part_203_206 (lv' := [(3, .int (nI ((X.lt X.pl) - 97))), (2, .int (nI (X.pl))), (0, .ref 0), (1, .int (nI (108)))]) (st' := [.int (nI (108)), .int (nI (108))]) (w2 := modW 0 S ((X.rf, X.wo, X.ta, X.ow, X.sl, X.sh, X.lt, X.ty, X.pl + 1, 0 ||| (1 <<< ((X.lt X.pl) - 97)), 0, X.tt, X.oo, X.on, X.wn, X.pd, X.li, X.rr, X.rn, X.dr) : ModN) K) rfl ?_
        refine ev_icmp_ne_n (tgt := 229) (by decide) (by decide) dX7_part_206 (by decide) (fun h206 => (by exfalso; omega)) (fun h206 => ?_)
        refine ev_b bX7_part_209_213 (lv' := [(3, .int (nI ((X.lt X.pl) - 97))), (2, .int (nI (X.pl))), (0, .ref 0), (1, .int (nI (108)))]) (st' := [.int (nI (0))]) (w2 := modW 0 S ((X.rf, X.wo, X.ta, X.ow, X.sl, X.sh, X.lt, X.ty, X.pl + 1, 0 ||| (1 <<< ((X.lt X.pl) - 97)), 0, X.tt, X.oo, X.on, X.wn, X.pd, X.li, X.rr, X.rn, X.dr) : ModN) K) rfl ?_
        refine ev_if_ne_n (tgt := 229) (by decide) dX7_part_213 (by decide) (fun h213 => (by exfalso; omega)) (fun h213 => ?_)
        refine ev_b bX7_part_216_222 (lv' := [(3, .int (nI ((X.lt X.pl) - 97))), (2, .int (nI (X.pl))), (0, .ref 0), (1, .int (nI (108)))]) (st' := [.int (nI (X.pl)), .ref 11, .ref 0]) (w2 := modW 0 S ((X.rf, X.wo, X.ta, X.ow, X.sl, X.sh, X.lt, X.ty, X.pl + 1, 0 ||| (1 <<< ((X.lt X.pl) - 97)), 0, X.tt, X.oo, X.on, X.wn, X.pd, X.li, X.rr, X.rn, X.dr) : ModN) K) rfl ?_
        refine ev_iald_n (f := X.lt) dX7_part_222 rfl (by omega) (by decide) ?_
        refine ev_b bX7_part_223_225 (lv' := [(3, .int (nI ((X.lt X.pl) - 97))), (2, .int (nI (X.pl))), (0, .ref 0), (1, .int (nI (108)))]) (st' := [.int (nI (97)), .int (nI (X.lt X.pl)), .ref 0]) (w2 := modW 0 S ((X.rf, X.wo, X.ta, X.ow, X.sl, X.sh, X.lt, X.ty, X.pl + 1, 0 ||| (1 <<< ((X.lt X.pl) - 97)), 0, X.tt, X.oo, X.on, X.wn, X.pd, X.li, X.rr, X.rn, X.dr) : ModN) K) rfl ?_
        refine ev_isub_n (by omega) dX7_part_225 ?_
        refine ev_b bX7_part_226_229 (lv' := [(3, .int (nI ((X.lt X.pl) - 97))), (2, .int (nI (X.pl))), (0, .ref 0), (1, .int (nI (108)))]) (st' := []) (w2 := modW 0 S ((X.rf, X.wo, X.ta, X.ow, X.sl, X.sh, X.lt, X.ty, X.pl + 1, (X.lt X.pl) - 97, 0, X.tt, X.oo, X.on, X.wn, X.pd, X.li, X.rr, X.rn, X.dr) : ModN) K) rfl ?_
        have ho1 : b01 (6 ≤ (rdItem X.lt X.ty (X.pl, -9)).1) = 0 := b01_f (by rw [e9]; show ¬ 6 ≤ X.lt X.pl - 97; omega)
        have hn1 : (if (rdItem X.lt X.ty (X.pl, -9)).1 < 6 then (rdItem X.lt X.ty (X.pl, -9)).1 else 0) = X.lt X.pl - 97 := by rw [e9]; exact if_pos (show  X.lt X.pl - 97 < 6 by omega)
        refine ev_b bX7_part_229_230 (lv' := [(3, .int (nI ((X.lt X.pl) - 97))), (2, .int (nI (X.pl))), (0, .ref 0), (1, .int (nI (108)))]) (st' := [.int (nI (1))]) (w2 := modW 0 S ((X.rf, X.wo, X.ta, X.ow, X.sl, X.sh, X.lt, X.ty, X.pl + 1, (X.lt X.pl) - 97, 0, X.tt, X.oo, X.on, X.wn, X.pd, X.li, X.rr, X.rn, X.dr) : ModN) K) rfl ?_
        exact ev_zret dX7_part_230 rfl rfl mod_le (Nat.le_refl _) (Nat.le_refl _) ⟨(congrArg (fun t => some (Value.int (nI t))) (b01_t (by rw [e9])).symm), (by rw [ho1, hn1, e9])⟩
      · skip
        refine ev_b bX7_part_112_115 (lv' := [(3, .int (nI ((X.lt X.pl) - 97))), (2, .int (nI (X.pl))), (0, .ref 0), (1, .int (nI (108)))]) (st' := [.int (nI (115)), .int (nI (108))]) (w2 := modW 0 S ((X.rf, X.wo, X.ta, X.ow, X.sl, X.sh, X.lt, X.ty, X.pl + 1, 0 ||| (1 <<< ((X.lt X.pl) - 97)), 0, X.tt, X.oo, X.on, X.wn, X.pd, X.li, X.rr, X.rn, X.dr) : ModN) K) rfl ?_
        refine ev_icmp_eq_n (tgt := 126) (by decide) (by decide) dX7_part_115 (by decide) (fun h115 => (by exfalso; omega)) (fun h115 => ?_)
        refine ev_b bX7_part_118_123 (lv' := [(3, .int (nI ((X.lt X.pl) - 97))), (2, .int (nI (X.pl))), (0, .ref 0), (1, .int (nI (108)))]) (st' := [.int (nI (X.pl)), .int (nI (X.pl + 1))]) (w2 := modW 0 S ((X.rf, X.wo, X.ta, X.ow, X.sl, X.sh, X.lt, X.ty, X.pl + 1, 0 ||| (1 <<< ((X.lt X.pl) - 97)), 0, X.tt, X.oo, X.on, X.wn, X.pd, X.li, X.rr, X.rn, X.dr) : ModN) K) rfl ?_
        refine ev_icmp_ne_n (tgt := 203) (by omega) (by omega) dX7_part_123 (by decide) (fun h123 => ?_) (fun h123 => (by exfalso; omega))
        refine ev_b bX7_part_203_206 (lv' := [(3, .int (nI ((X.lt X.pl) - 97))), (2, .int (nI (X.pl))), (0, .ref 0), (1, .int (nI (108)))]) (st' := [.int (nI (108)), .int (nI (108))]) (w2 := modW 0 S ((X.rf, X.wo, X.ta, X.ow, X.sl, X.sh, X.lt, X.ty, X.pl + 1, 0 ||| (1 <<< ((X.lt X.pl) - 97)), 0, X.tt, X.oo, X.on, X.wn, X.pd, X.li, X.rr, X.rn, X.dr) : ModN) K) rfl ?_
        refine ev_icmp_ne_n (tgt := 229) (by decide) (by decide) dX7_part_206 (by decide) (fun h206 => (by exfalso; omega)) (fun h206 => ?_)
        refine ev_b bX7_part_209_213 (lv' := [(3, .int (nI ((X.lt X.pl) - 97))), (2, .int (nI (X.pl))), (0, .ref 0), (1, .int (nI (108)))]) (st' := [.int (nI (0))]) (w2 := modW 0 S ((X.rf, X.wo, X.ta, X.ow, X.sl, X.sh, X.lt, X.ty, X.pl + 1, 0 ||| (1 <<< ((X.lt X.pl) - 97)), 0, X.tt, X.oo, X.on, X.wn, X.pd, X.li, X.rr, X.rn, X.dr) : ModN) K) rfl ?_
        refine ev_if_ne_n (tgt := 229) (by decide) dX7_part_213 (by decide) (fun h213 => (by exfalso; omega)) (fun h213 => ?_)
        refine ev_b bX7_part_216_222 (lv' := [(3, .int (nI ((X.lt X.pl) - 97))), (2, .int (nI (X.pl))), (0, .ref 0), (1, .int (nI (108)))]) (st' := [.int (nI (X.pl)), .ref 11, .ref 0]) (w2 := modW 0 S ((X.rf, X.wo, X.ta, X.ow, X.sl, X.sh, X.lt, X.ty, X.pl + 1, 0 ||| (1 <<< ((X.lt X.pl) - 97)), 0, X.tt, X.oo, X.on, X.wn, X.pd, X.li, X.rr, X.rn, X.dr) : ModN) K) rfl ?_
        refine ev_iald_n (f := X.lt) dX7_part_222 rfl (by omega) (by decide) ?_
        refine ev_b bX7_part_223_225 (lv' := [(3, .int (nI ((X.lt X.pl) - 97))), (2, .int (nI (X.pl))), (0, .ref 0), (1, .int (nI (108)))]) (st' := [.int (nI (97)), .int (nI (X.lt X.pl)), .ref 0]) (w2 := modW 0 S ((X.rf, X.wo, X.ta, X.ow, X.sl, X.sh, X.lt, X.ty, X.pl + 1, 0 ||| (1 <<< ((X.lt X.pl) - 97)), 0, X.tt, X.oo, X.on, X.wn, X.pd, X.li, X.rr, X.rn, X.dr) : ModN) K) rfl ?_
        refine ev_isub_n (by omega) dX7_part_225 ?_
        refine ev_b bX7_part_226_229 (lv' := [(3, .int (nI ((X.lt X.pl) - 97))), (2, .int (nI (X.pl))), (0, .ref 0), (1, .int (nI (108)))]) (st' := []) (w2 := modW 0 S ((X.rf, X.wo, X.ta, X.ow, X.sl, X.sh, X.lt, X.ty, X.pl + 1, (X.lt X.pl) - 97, 0, X.tt, X.oo, X.on, X.wn, X.pd, X.li, X.rr, X.rn, X.dr) : ModN) K) rfl ?_
        have ho1 : b01 (6 ≤ (rdItem X.lt X.ty (X.pl, -9)).1) = 0 := b01_f (by rw [e9]; show ¬ 6 ≤ X.lt X.pl - 97; omega)
        have hn1 : (if (rdItem X.lt X.ty (X.pl, -9)).1 < 6 then (rdItem X.lt X.ty (X.pl, -9)).1 else 0) = X.lt X.pl - 97 := by rw [e9]; exact if_pos (show  X.lt X.pl - 97 < 6 by omega)
        refine ev_b bX7_part_229_230 (lv' := [(3, .int (nI ((X.lt X.pl) - 97))), (2, .int (nI (X.pl))), (0, .ref 0), (1, .int (nI (108)))]) (st' := [.int (nI (1))]) (w2 := modW 0 S ((X.rf, X.wo, X.ta, X.ow, X.sl, X.sh, X.lt, X.ty, X.pl + 1, (X.lt X.pl) - 97, 0, X.tt, X.oo, X.on, X.wn, X.pd, X.li, X.rr, X.rn, X.dr) : ModN) K) rfl ?_
        exact ev_zret dX7_part_230 rfl rfl mod_le (Nat.le_refl _) (Nat.le_refl _) ⟨(congrArg (fun t => some (Value.int (nI t))) (b01_t (by rw [e9])).symm), (by rw [ho1, hn1, e9])⟩
  · skip
    have e9 : rdItem X.lt X.ty (X.pl, -9) = (0, (X.pl, ((X.pl : Nat) : Int))) := (if_pos rfl).trans (if_neg h95)
    have ho1 : b01 (6 ≤ (rdItem X.lt X.ty (X.pl, -9)).1) = 0 := b01_f (by rw [e9]; show ¬ 6 ≤ 0; omega)
    have hn1 : (if (rdItem X.lt X.ty (X.pl, -9)).1 < 6 then (rdItem X.lt X.ty (X.pl, -9)).1 else 0) = 0 := by rw [e9]; rfl
    refine ev_b bX7_part_98_99 (lv' := [(0, .ref 0), (1, .int (nI (108)))]) (st' := [.int (nI (0))]) (w2 := modW 0 S ((X.rf, X.wo, X.ta, X.ow, X.sl, X.sh, X.lt, X.ty, X.pl, 0, X.od, X.tt, X.oo, X.on, X.wn, X.pd, X.li, X.rr, X.rn, X.dr) : ModN) K) rfl ?_
    exact ev_zret dX7_part_99 rfl rfl mod_le (Nat.le_refl _) (Nat.le_refl _) ⟨(congrArg (fun t => some (Value.int (nI t))) (b01_f (by rw [e9]; show ¬ ((X.pl : Nat) : Int) = -9; omega)).symm), (by rw [ho1, hn1, e9, ← ho])⟩
