theorem bX7_isWord_0_1 {l : Launch} {E : XE} : Snd l E mX7_isWord 0 1 (xs [x_aload 1]) := Snd.cons (snd_aload_n (i := 1) dX7_isWord_0 rfl) Snd.nil
theorem bX7_isWord_4_6 {l : Launch} {E : XE} : Snd l E mX7_isWord 4 6 (xs [x_iload 3, x_iload 2]) := Snd.cons (snd_iload_n (i := 3) dX7_isWord_4 rfl) (Snd.cons (snd_iload_n (i := 2) dX7_isWord_5 rfl) Snd.nil)
theorem bX7_isWord_12_15 {l : Launch} {E : XE} : Snd l E mX7_isWord 12 15 (xs [x_iload 2, x_istore 4]) := Snd.cons (snd_iload_n (i := 2) dX7_isWord_12 rfl) (Snd.cons (snd_istore dX7_isWord_13 (by decide)) Snd.nil)
theorem bX7_isWord_15_18 {l : Launch} {E : XE} : Snd l E mX7_isWord 15 18 (xs [x_iload 4, x_iload 3]) := Snd.cons (snd_iload dX7_isWord_15) (Snd.cons (snd_iload_n (i := 3) dX7_isWord_17 rfl) Snd.nil)
theorem bX7_isWord_47_48 {l : Launch} {E : XE} : Snd l E mX7_isWord 47 48 (xs [x_push (.int (nI 1))]) := Snd.cons (snd_iconst (v := nI 1) dX7_isWord_47 (by decide)) Snd.nil
theorem bX7_isWord_21_27 {l : Launch} {E : XE} : Snd l E mX7_isWord 21 27 (xs [x_aload 0, x_get 8 14, x_iload 4]) := Snd.cons (snd_aload_n (i := 0) dX7_isWord_21 rfl) (Snd.cons (snd_get (ci := 8) (k := 14) dX7_isWord_22 rfl inX7 (by decide) tw_928) (Snd.cons (snd_iload dX7_isWord_25) Snd.nil))
theorem bX7_isWord_28_32 {l : Launch} {E : XE} : Snd l E mX7_isWord 28 32 (xs [x_aload 1, x_iload 4, x_iload 2]) := Snd.cons (snd_aload_n (i := 1) dX7_isWord_28 rfl) (Snd.cons (snd_iload dX7_isWord_29) (Snd.cons (snd_iload_n (i := 2) dX7_isWord_31 rfl) Snd.nil))
theorem bX7_isWord_44_15 {l : Launch} {E : XE} : Snd l E mX7_isWord 44 15 (xs [x_id]) := Snd.cons (snd_goto (tgt := 15) dX7_isWord_44 (by decide)) Snd.nil
theorem bX7_isWord_39_40 {l : Launch} {E : XE} : Snd l E mX7_isWord 39 40 (xs [x_push (.int (nI 0))]) := Snd.cons (snd_iconst (v := nI 0) dX7_isWord_39 (by decide)) Snd.nil
theorem bX7_isWord_10_11 {l : Launch} {E : XE} : Snd l E mX7_isWord 10 11 (xs [x_push (.int (nI 0))]) := Snd.cons (snd_iconst (v := nI 0) dX7_isWord_10 (by decide)) Snd.nil
set_option maxHeartbeats 4000000 in
set_option maxRecDepth 100000 in
theorem m_X7_isWord {l : Launch} {E : XE} (S : SaleN) (X : ModN) (K : Option (Nat → Nat)) (c : UInt32) (b p e : Nat) (hc : c.toNat = b) (hb : b < 5) (hT : X.ty ≤ 96) (hL : ∀ k, k < X.ty → X.lt k ≤ 255) (hp : p ≤ e) (he : e ≤ X.ty) : MetE l E mX7_isWord (6) 0 0 [.ref 0, .float c, .int (nI (p)), .int (nI (e))] (modW 0 S X K) (fun r w' => r = some (.int (nI (b01 (splW X.lt b p e)))) ∧ w' = modW 0 S X K) := by
  refine MetE.of (by decide +kernel) (Nat.le_of_ble_eq_true rfl) ?_
  have hl5 := sL_lt b (by omega)
  refine ev_eq (lv' := [(0, .ref 0), (1, .float c), (2, .int (nI (p))), (3, .int (nI (e)))]) (st' := []) (w' := modW 0 S X K) rfl rfl rfl ?_
  refine ev_b bX7_isWord_0_1 (lv' := [(0, .ref 0), (1, .float c), (2, .int (nI (p))), (3, .int (nI (e)))]) (st' := [.float c]) (w2 := modW 0 S X K) rfl ?_
  refine ev_callVs (Yc := mJ0_length_8abf5) dX7_isWord_1 tw_1043 kJ0_length_8abf5 rfl hc (by omega) (m_J0_length_8abf5 c (UInt32.ofNat (10 + b)) b hc (by omega) (sU (by omega))) rfl (st := []) rfl (by decide) (Nat.le_of_ble_eq_true rfl) (Nat.le_refl _) (Nat.le_refl _) ?_
  rintro _ _ ⟨rfl, rfl⟩
  refine ev_eq (lv' := [(0, .ref 0), (1, .float c), (2, .int (nI (p))), (3, .int (nI (e)))]) (st' := [.int (nI (sLen.getD b 0))]) (w' := modW 0 S X K) rfl rfl rfl ?_
  refine ev_b bX7_isWord_4_6 (lv' := [(0, .ref 0), (1, .float c), (2, .int (nI (p))), (3, .int (nI (e)))]) (st' := [.int (nI (p)), .int (nI (e)), .int (nI (sLen.getD b 0))]) (w2 := modW 0 S X K) rfl ?_
  refine ev_isub_n (by omega) dX7_isWord_6 ?_
  refine ev_icmp_eq_n (tgt := 12) (by omega) (by omega) dX7_isWord_7 (by decide) (fun h7 => ?_) (fun h7 => ?_)
  · skip
    refine ev_b bX7_isWord_12_15 (lv' := [(4, .int (nI (p))), (0, .ref 0), (1, .float c), (2, .int (nI (p))), (3, .int (nI (e)))]) (st' := []) (w2 := modW 0 S X K) rfl ?_
    have L15 : ∀ (j_ k : Nat), k + j_ = sLen.getD b 0 → (∀ i, i < k → nI (X.lt (p + i)) = (sByt.getD b []).getD i 0) → Ev l E mX7_isWord (6) 0 0 (modW 0 S X K) (fun r w' => r = some (.int (nI (b01 (splW X.lt b p e)))) ∧ w' = modW 0 S X K) 0 0 15 [(4, .int (nI (p + k))), (0, .ref 0), (1, .float c), (2, .int (nI (p))), (3, .int (nI (e)))] [] (modW 0 S X K) := by
      intro j_
      induction j_ with
      | zero =>
        intro k hk15  hinv15
        replace hk15 : k = sLen.getD b 0 := hk15
        subst hk15
        refine ev_b bX7_isWord_15_18 (lv' := [(4, .int (nI (p + (sLen.getD b 0)))), (0, .ref 0), (1, .float c), (2, .int (nI (p))), (3, .int (nI (e)))]) (st' := [.int (nI (e)), .int (nI (p + (sLen.getD b 0)))]) (w2 := modW 0 S X K) rfl ?_
        refine ev_icmp_ge_n (tgt := 47) (by omega) (by omega) dX7_isWord_18 (by decide) (fun h18 => ?_) (fun h18 => (by exfalso; omega))
        refine ev_b bX7_isWord_47_48 (lv' := [(4, .int (nI (p + (sLen.getD b 0)))), (0, .ref 0), (1, .float c), (2, .int (nI (p))), (3, .int (nI (e)))]) (st' := [.int (nI (1))]) (w2 := modW 0 S X K) rfl ?_
        exact ev_zret dX7_isWord_48 rfl rfl mod_le (Nat.le_refl _) (Nat.le_refl _) ⟨(congrArg (fun t => some (Value.int (nI t))) (b01_t (by exact ⟨by omega, hinv15⟩)).symm), rfl⟩
      | succ j_ ih15 =>
        intro k hk15  hinv15
        have hlt15 : k < sLen.getD b 0 := by omega
        have hkl := hlt15
        refine ev_b bX7_isWord_15_18 (lv' := [(4, .int (nI (p + k))), (0, .ref 0), (1, .float c), (2, .int (nI (p))), (3, .int (nI (e)))]) (st' := [.int (nI (e)), .int (nI (p + k))]) (w2 := modW 0 S X K) rfl ?_
        refine ev_icmp_ge_n (tgt := 47) (by omega) (by omega) dX7_isWord_18 (by decide) (fun h18 => (by exfalso; omega)) (fun h18 => ?_)
        refine ev_b bX7_isWord_21_27 (lv' := [(4, .int (nI (p + k))), (0, .ref 0), (1, .float c), (2, .int (nI (p))), (3, .int (nI (e)))]) (st' := [.int (nI (p + k)), .ref 11]) (w2 := modW 0 S X K) rfl ?_
        refine ev_iald_n (f := X.lt) dX7_isWord_27 rfl (by omega) (by decide) ?_
        refine ev_b bX7_isWord_28_32 (lv' := [(4, .int (nI (p + k))), (0, .ref 0), (1, .float c), (2, .int (nI (p))), (3, .int (nI (e)))]) (st' := [.int (nI (p)), .int (nI (p + k)), .float c, .int (nI (X.lt (p + k)))]) (w2 := modW 0 S X K) rfl ?_
        refine ev_isub_n (by omega) dX7_isWord_32 ?_
        refine ev_top (y := (nI (k))) (congrArg nI (show (p + k) - p = k from by omega)) ?_
        refine ev_callVs (Yc := mJ0_charAt_5068e) dX7_isWord_33 tw_1044 kJ0_charAt_5068e rfl hc (by omega) (m_J0_charAt_5068e c (UInt32.ofNat (10 + b)) b k hc (by omega) (sU (by omega)) hkl) rfl (st := [.int (nI (X.lt (p + k)))]) rfl (by decide) (Nat.le_of_ble_eq_true rfl) (Nat.le_refl _) (Nat.le_refl _) ?_
        rintro _ _ ⟨rfl, rfl⟩
        refine ev_eq (lv' := [(4, .int (nI (p + k))), (0, .ref 0), (1, .float c), (2, .int (nI (p))), (3, .int (nI (e)))]) (st' := [.int ((sByt.getD b []).getD k 0), .int (nI (X.lt (p + k)))]) (w' := modW 0 S X K) rfl rfl rfl ?_
        refine ev_icmp_eq (tgt := 41) dX7_isWord_36 (by decide) (fun h36 => ?_) (fun h36 => ?_)
        · skip
          have hnext : ∀ i, i < k + 1 → nI (X.lt (p + i)) = (sByt.getD b []).getD i 0 := fun i hi => by
            by_cases e : i = k
            · rw [e]; exact h36
            · exact hinv15 i (by omega)
          refine ev_iinc_n (x := p + k) (v := 1) dX7_isWord_41 rfl (by decide) ?_
          refine ev_eq (lv' := [(4, .int (nI ((p + k) + 1))), (0, .ref 0), (1, .float c), (2, .int (nI (p))), (3, .int (nI (e)))]) rfl rfl rfl ?_
          refine ev_b bX7_isWord_44_15 (lv' := [(4, .int (nI ((p + k) + 1))), (0, .ref 0), (1, .float c), (2, .int (nI (p))), (3, .int (nI (e)))]) (st' := []) (w2 := modW 0 S X K) rfl ?_
          exact ih15 (k + 1) (by omega) hnext
        · skip
          refine ev_b bX7_isWord_39_40 (lv' := [(4, .int (nI (p + k))), (0, .ref 0), (1, .float c), (2, .int (nI (p))), (3, .int (nI (e)))]) (st' := [.int (nI (0))]) (w2 := modW 0 S X K) rfl ?_
          exact ev_zret dX7_isWord_40 rfl rfl mod_le (Nat.le_refl _) (Nat.le_refl _) ⟨(congrArg (fun t => some (Value.int (nI t))) (b01_f (by exact fun z => h36 (z.2 k hkl))).symm), rfl⟩
    exact L15 (sLen.getD b 0) 0 (by omega) (fun i hi => absurd hi (Nat.not_lt_zero i))
  · skip
    refine ev_b bX7_isWord_10_11 (lv' := [(0, .ref 0), (1, .float c), (2, .int (nI (p))), (3, .int (nI (e)))]) (st' := [.int (nI (0))]) (w2 := modW 0 S X K) rfl ?_
    exact ev_zret dX7_isWord_11 rfl rfl mod_le (Nat.le_refl _) (Nat.le_refl _) ⟨(congrArg (fun t => some (Value.int (nI t))) (b01_f (by exact fun z => h7 (by have := z.1; omega))).symm), rfl⟩
theorem bX7_word_0_5 {l : Launch} {E : XE} : Snd l E mX7_word 0 5 (xs [x_aload 0, x_get 8 16, x_istore 1]) := Snd.cons (snd_aload_n (i := 0) dX7_word_0 rfl) (Snd.cons (snd_get (ci := 8) (k := 16) dX7_word_1 rfl inX7 (by decide) tw_930) (Snd.cons (snd_istore_n (i := 1) dX7_word_4 rfl (by decide)) Snd.nil))
theorem bX7_word_5_6 {l : Launch} {E : XE} : Snd l E mX7_word 5 6 (xs [x_aload 0]) := Snd.cons (snd_aload_n (i := 0) dX7_word_5 rfl) Snd.nil
theorem bX7_word_25_33 {l : Launch} {E : XE} : Snd l E mX7_word 25 33 (xs [x_push (.int (nI 0)), x_istore 2, x_iload 2, x_aload 0, x_get 8 17, x_len]) := Snd.cons (snd_iconst (v := nI 0) dX7_word_25 (by decide)) (Snd.cons (snd_istore_n (i := 2) dX7_word_26 rfl (by decide)) (Snd.cons (snd_iload_n (i := 2) dX7_word_27 rfl) (Snd.cons (snd_aload_n (i := 0) dX7_word_28 rfl) (Snd.cons (snd_get (ci := 8) (k := 17) dX7_word_29 rfl inX7 (by decide) tw_931) (Snd.cons (snd_len dX7_word_32) Snd.nil)))))
theorem bX7_word_36_42 {l : Launch} {E : XE} : Snd l E mX7_word 36 42 (xs [x_aload 0, x_aload 0, x_get 8 17, x_iload 2]) := Snd.cons (snd_aload_n (i := 0) dX7_word_36 rfl) (Snd.cons (snd_aload_n (i := 0) dX7_word_37 rfl) (Snd.cons (snd_get (ci := 8) (k := 17) dX7_word_38 rfl inX7 (by decide) tw_931) (Snd.cons (snd_iload_n (i := 2) dX7_word_41 rfl) Snd.nil)))
theorem bX7_word_43_48 {l : Launch} {E : XE} : Snd l E mX7_word 43 48 (xs [x_iload 1, x_aload 0, x_get 8 16]) := Snd.cons (snd_iload_n (i := 1) dX7_word_43 rfl) (Snd.cons (snd_aload_n (i := 0) dX7_word_44 rfl) (Snd.cons (snd_get (ci := 8) (k := 16) dX7_word_45 rfl inX7 (by decide) tw_930) Snd.nil))
theorem bX7_word_59_33 {l : Launch} {E : XE} : Snd l E mX7_word 59 33 (xs [x_id, x_iload 2, x_aload 0, x_get 8 17, x_len]) := Snd.cons (snd_goto (tgt := 27) dX7_word_59 (by decide)) (Snd.cons (snd_iload_n (i := 2) dX7_word_27 rfl) (Snd.cons (snd_aload_n (i := 0) dX7_word_28 rfl) (Snd.cons (snd_get (ci := 8) (k := 17) dX7_word_29 rfl inX7 (by decide) tw_931) (Snd.cons (snd_len dX7_word_32) Snd.nil))))
theorem bX7_word_62_69 {l : Launch} {E : XE} : Snd l E mX7_word 62 69 (xs [x_aload 0, x_iload 1, x_puti 8 16, x_push (.int (-9))]) := Snd.cons (snd_aload_n (i := 0) dX7_word_62 rfl) (Snd.cons (snd_iload_n (i := 1) dX7_word_63 rfl) (Snd.cons (snd_puti (ci := 8) (k := 16) dX7_word_64 rfl inX7 tyX7_ok nmX7 (by decide) tw_930 rfl rfl) (Snd.cons (snd_bipush (v := -9) dX7_word_67 (by decide)) Snd.nil)))
theorem bX7_word_54_55 {l : Launch} {E : XE} : Snd l E mX7_word 54 55 (xs [x_iload 2]) := Snd.cons (snd_iload_n (i := 2) dX7_word_54 rfl) Snd.nil
theorem bX7_word_12_18 {l : Launch} {E : XE} : Snd l E mX7_word 12 18 (xs [x_aload 0, x_dup, x_get 8 16, x_push (.int (nI 1))]) := Snd.cons (snd_aload_n (i := 0) dX7_word_12 rfl) (Snd.cons (snd_dup dX7_word_13) (Snd.cons (snd_get (ci := 8) (k := 16) dX7_word_14 rfl inX7 (by decide) tw_930) (Snd.cons (snd_iconst (v := nI 1) dX7_word_17 (by decide)) Snd.nil)))
theorem bX7_word_19_5 {l : Launch} {E : XE} : Snd l E mX7_word 19 5 (xs [x_puti 8 16, x_id]) := Snd.cons (snd_puti (ci := 8) (k := 16) dX7_word_19 rfl inX7 tyX7_ok nmX7 (by decide) tw_930 rfl rfl) (Snd.cons (snd_goto (tgt := 5) dX7_word_22 (by decide)) Snd.nil)
set_option maxHeartbeats 4000000 in
set_option maxRecDepth 100000 in
theorem m_X7_word {l : Launch} {E : XE} (S : SaleN) (X : ModN) (K : Option (Nat → Nat)) (hT : X.ty ≤ 96) (hL : ∀ k, k < X.ty → X.lt k ≤ 255) (hp : X.pl ≤ X.ty) : MetE l E mX7_word (7) 0 0 [.ref 0] (modW 0 S X K) (fun r w' => r = some (.int (zI ((if (rdWord X.lt X.ty X.pl).1 = -1 then -9 else (rdWord X.lt X.ty X.pl).1)))) ∧ w' = modW 0 S ((X.rf, X.wo, X.ta, X.ow, X.sl, X.sh, X.lt, X.ty, (if (rdWord X.lt X.ty X.pl).1 = -1 then X.pl else (rdWord X.lt X.ty X.pl).2.1), X.nu, X.od, X.tt, X.oo, X.on, X.wn, X.pd, X.li, X.rr, X.rn, X.dr) : ModN) K) := by
  refine MetE.of (by decide +kernel) (Nat.le_of_ble_eq_true rfl) ?_
  refine ev_eq (lv' := [(0, .ref 0)]) (st' := []) (w' := modW 0 S X K) rfl rfl rfl ?_
  refine ev_b bX7_word_0_5 (lv' := [(1, .int (nI (X.pl))), (0, .ref 0)]) (st' := []) (w2 := modW 0 S X K) rfl ?_
  have L5 : ∀ (j_ k : Nat), k + j_ = 97 → (X.pl + k ≤ X.ty ∧ wrdEnd X.lt X.ty (96 - k) (X.pl + k) = wrdEnd X.lt X.ty 96 X.pl) → Ev l E mX7_word (7) 0 0 (modW 0 S X K) (fun r w' => r = some (.int (zI ((if (rdWord X.lt X.ty X.pl).1 = -1 then -9 else (rdWord X.lt X.ty X.pl).1)))) ∧ w' = modW 0 S ((X.rf, X.wo, X.ta, X.ow, X.sl, X.sh, X.lt, X.ty, (if (rdWord X.lt X.ty X.pl).1 = -1 then X.pl else (rdWord X.lt X.ty X.pl).2.1), X.nu, X.od, X.tt, X.oo, X.on, X.wn, X.pd, X.li, X.rr, X.rn, X.dr) : ModN) K) 0 0 5 [(0, .ref 0), (1, .int (nI (X.pl)))] [] (modW 0 S ((X.rf, X.wo, X.ta, X.ow, X.sl, X.sh, X.lt, X.ty, (X.pl + k), X.nu, X.od, X.tt, X.oo, X.on, X.wn, X.pd, X.li, X.rr, X.rn, X.dr) : ModN) K) := by
    intro j_
    induction j_ with
    | zero =>
      intro k hk5  hinv5
      replace hk5 : k = 97 := hk5
      have hI := hinv5
      obtain ⟨hi1, hi2⟩ := hI
      exfalso; omega
    | succ j_ ih5 =>
      intro k hk5  hinv5
      have hlt5 : k < 97 := by omega
      have hI := hinv5
      obtain ⟨hi1, hi2⟩ := hI
      refine ev_b bX7_word_5_6 (lv' := [(0, .ref 0), (1, .int (nI (X.pl)))]) (st' := [.ref 0]) (w2 := modW 0 S ((X.rf, X.wo, X.ta, X.ow, X.sl, X.sh, X.lt, X.ty, (X.pl + k), X.nu, X.od, X.tt, X.oo, X.on, X.wn, X.pd, X.li, X.rr, X.rn, X.dr) : ModN) K) rfl ?_
      refine ev_callM (Yc := mX7_isLetter) (st := []) dX7_word_6 tw_1032 kX7_isLetter (m_X7_isLetter S ((X.rf, X.wo, X.ta, X.ow, X.sl, X.sh, X.lt, X.ty, (X.pl + k), X.nu, X.od, X.tt, X.oo, X.on, X.wn, X.pd, X.li, X.rr, X.rn, X.dr) : ModN) K hT hL (show X.pl + k ≤ 96 by omega)) rfl rfl rfl rfl (by decide) (Nat.le_of_ble_eq_true rfl) (Nat.le_refl _) (Nat.le_refl _) (fun r w' h => by obtain ⟨-, rfl⟩ := h; exact mod_eq) ?_
      rintro _ _ ⟨rfl, rfl⟩
      refine ev_eq (lv' := [(0, .ref 0), (1, .int (nI (X.pl)))]) (st' := [.int (nI (b01 (isSm (sgz X.lt X.ty (X.pl + k)))))]) (w' := modW 0 S ((X.rf, X.wo, X.ta, X.ow, X.sl, X.sh, X.lt, X.ty, (X.pl + k), X.nu, X.od, X.tt, X.oo, X.on, X.wn, X.pd, X.li, X.rr, X.rn, X.dr) : ModN) K) rfl rfl rfl ?_
      refine ev_ifeq_b (tgt := 25) dX7_word_9 (by decide) (fun h9 => ?_) (fun h9 => ?_)
      · skip
        have hE : wrdEnd X.lt X.ty 96 X.pl = X.pl + k := by
          rw [← hi2]
          rcases Nat.lt_or_ge k 96 with z | z
          · rw [show 96 - k = (95 - k) + 1 by omega, wrdEnd_s, if_neg h9]
          · rw [show 96 - k = 0 by omega]
            rfl
        refine ev_b bX7_word_25_33 (lv' := [(2, .int (nI (0))), (0, .ref 0), (1, .int (nI (X.pl)))]) (st' := [.int (nI (5)), .int (nI (0))]) (w2 := modW 0 S ((X.rf, X.wo, X.ta, X.ow, X.sl, X.sh, X.lt, X.ty, (X.pl + k), X.nu, X.od, X.tt, X.oo, X.on, X.wn, X.pd, X.li, X.rr, X.rn, X.dr) : ModN) K) rfl ?_
        refine ev_icmp_ge_n (tgt := 62) (by decide) (by decide) dX7_word_33 (by decide) (fun h33 => (by exfalso; omega)) (fun h33 => ?_)
        refine ev_b bX7_word_36_42 (lv' := [(2, .int (nI (0))), (0, .ref 0), (1, .int (nI (X.pl)))]) (st' := [.int (nI (0)), .ref 12, .ref 0]) (w2 := modW 0 S ((X.rf, X.wo, X.ta, X.ow, X.sl, X.sh, X.lt, X.ty, (X.pl + k), X.nu, X.od, X.tt, X.oo, X.on, X.wn, X.pd, X.li, X.rr, X.rn, X.dr) : ModN) K) rfl ?_
        refine ev_sald (b := 0) dX7_word_42 rfl (by decide) (by decide) (by decide) ?_
        refine ev_b bX7_word_43_48 (lv' := [(2, .int (nI (0))), (0, .ref 0), (1, .int (nI (X.pl)))]) (st' := [.int (nI ((X.pl + k))), .int (nI (X.pl)), .float 0, .ref 0]) (w2 := modW 0 S ((X.rf, X.wo, X.ta, X.ow, X.sl, X.sh, X.lt, X.ty, (X.pl + k), X.nu, X.od, X.tt, X.oo, X.on, X.wn, X.pd, X.li, X.rr, X.rn, X.dr) : ModN) K) rfl ?_
        refine ev_callM (Yc := mX7_isWord) (st := []) dX7_word_48 tw_1039 kX7_isWord (m_X7_isWord S ((X.rf, X.wo, X.ta, X.ow, X.sl, X.sh, X.lt, X.ty, (X.pl + k), X.nu, X.od, X.tt, X.oo, X.on, X.wn, X.pd, X.li, X.rr, X.rn, X.dr) : ModN) K 0 0 X.pl (X.pl + k) (by decide) (by decide) hT hL (by omega) hi1) rfl rfl rfl rfl (by decide) (Nat.le_of_ble_eq_true rfl) (Nat.le_refl _) (Nat.le_refl _) (fun r w' h => by obtain ⟨-, rfl⟩ := h; exact mod_eq) ?_
        rintro _ _ ⟨rfl, rfl⟩
        refine ev_eq (lv' := [(2, .int (nI (0))), (0, .ref 0), (1, .int (nI (X.pl)))]) (st' := [.int (nI (b01 (splW X.lt 0 X.pl (X.pl + k))))]) (w' := modW 0 S ((X.rf, X.wo, X.ta, X.ow, X.sl, X.sh, X.lt, X.ty, (X.pl + k), X.nu, X.od, X.tt, X.oo, X.on, X.wn, X.pd, X.li, X.rr, X.rn, X.dr) : ModN) K) rfl rfl rfl ?_
        refine ev_ifeq_b (tgt := 56) dX7_word_51 (by decide) (fun h51 => ?_) (fun h51 => ?_)
        · skip
          have hn0 := h51
          refine ev_iinc_n (x := 0) (v := 1) dX7_word_56 rfl (by decide) ?_
          refine ev_eq (lv' := [(2, .int (nI (0 + 1))), (0, .ref 0), (1, .int (nI (X.pl)))]) rfl rfl rfl ?_
          refine ev_b bX7_word_59_33 (lv' := [(2, .int (nI (0 + 1))), (0, .ref 0), (1, .int (nI (X.pl)))]) (st' := [.int (nI (5)), .int (nI (0 + 1))]) (w2 := modW 0 S ((X.rf, X.wo, X.ta, X.ow, X.sl, X.sh, X.lt, X.ty, (X.pl + k), X.nu, X.od, X.tt, X.oo, X.on, X.wn, X.pd, X.li, X.rr, X.rn, X.dr) : ModN) K) rfl ?_
          refine ev_icmp_ge_n (tgt := 62) (by omega) (by decide) dX7_word_33 (by decide) (fun h33 => (by exfalso; omega)) (fun h33 => ?_)
          refine ev_b bX7_word_36_42 (lv' := [(2, .int (nI (0 + 1))), (0, .ref 0), (1, .int (nI (X.pl)))]) (st' := [.int (nI (0 + 1)), .ref 12, .ref 0]) (w2 := modW 0 S ((X.rf, X.wo, X.ta, X.ow, X.sl, X.sh, X.lt, X.ty, (X.pl + k), X.nu, X.od, X.tt, X.oo, X.on, X.wn, X.pd, X.li, X.rr, X.rn, X.dr) : ModN) K) rfl ?_
          refine ev_sald (b := 1) dX7_word_42 rfl (by decide) (by decide) (by decide) ?_
          refine ev_b bX7_word_43_48 (lv' := [(2, .int (nI (0 + 1))), (0, .ref 0), (1, .int (nI (X.pl)))]) (st' := [.int (nI ((X.pl + k))), .int (nI (X.pl)), .float 1, .ref 0]) (w2 := modW 0 S ((X.rf, X.wo, X.ta, X.ow, X.sl, X.sh, X.lt, X.ty, (X.pl + k), X.nu, X.od, X.tt, X.oo, X.on, X.wn, X.pd, X.li, X.rr, X.rn, X.dr) : ModN) K) rfl ?_
          refine ev_callM (Yc := mX7_isWord) (st := []) dX7_word_48 tw_1039 kX7_isWord (m_X7_isWord S ((X.rf, X.wo, X.ta, X.ow, X.sl, X.sh, X.lt, X.ty, (X.pl + k), X.nu, X.od, X.tt, X.oo, X.on, X.wn, X.pd, X.li, X.rr, X.rn, X.dr) : ModN) K 1 1 X.pl (X.pl + k) (by decide) (by decide) hT hL (by omega) hi1) rfl rfl rfl rfl (by decide) (Nat.le_of_ble_eq_true rfl) (Nat.le_refl _) (Nat.le_refl _) (fun r w' h => by obtain ⟨-, rfl⟩ := h; exact mod_eq) ?_
          rintro _ _ ⟨rfl, rfl⟩
          refine ev_eq (lv' := [(2, .int (nI (0 + 1))), (0, .ref 0), (1, .int (nI (X.pl)))]) (st' := [.int (nI (b01 (splW X.lt 1 X.pl (X.pl + k))))]) (w' := modW 0 S ((X.rf, X.wo, X.ta, X.ow, X.sl, X.sh, X.lt, X.ty, (X.pl + k), X.nu, X.od, X.tt, X.oo, X.on, X.wn, X.pd, X.li, X.rr, X.rn, X.dr) : ModN) K) rfl rfl rfl ?_
          refine ev_ifeq_b (tgt := 56) dX7_word_51 (by decide) (fun h51 => ?_) (fun h51 => ?_)
          · skip
            have hn1 := h51
            refine ev_iinc_n (x := 0 + 1) (v := 1) dX7_word_56 rfl (by decide) ?_
            refine ev_eq (lv' := [(2, .int (nI ((0 + 1) + 1))), (0, .ref 0), (1, .int (nI (X.pl)))]) rfl rfl rfl ?_
            refine ev_b bX7_word_59_33 (lv' := [(2, .int (nI ((0 + 1) + 1))), (0, .ref 0), (1, .int (nI (X.pl)))]) (st' := [.int (nI (5)), .int (nI ((0 + 1) + 1))]) (w2 := modW 0 S ((X.rf, X.wo, X.ta, X.ow, X.sl, X.sh, X.lt, X.ty, (X.pl + k), X.nu, X.od, X.tt, X.oo, X.on, X.wn, X.pd, X.li, X.rr, X.rn, X.dr) : ModN) K) rfl ?_
            refine ev_icmp_ge_n (tgt := 62) (by omega) (by decide) dX7_word_33 (by decide) (fun h33 => (by exfalso; omega)) (fun h33 => ?_)
            refine ev_b bX7_word_36_42 (lv' := [(2, .int (nI ((0 + 1) + 1))), (0, .ref 0), (1, .int (nI (X.pl)))]) (st' := [.int (nI ((0 + 1) + 1)), .ref 12, .ref 0]) (w2 := modW 0 S ((X.rf, X.wo, X.ta, X.ow, X.sl, X.sh, X.lt, X.ty, (X.pl + k), X.nu, X.od, X.tt, X.oo, X.on, X.wn, X.pd, X.li, X.rr, X.rn, X.dr) : ModN) K) rfl ?_
            refine ev_sald (b := 2) dX7_word_42 rfl (by decide) (by decide) (by decide) ?_
            refine ev_b bX7_word_43_48 (lv' := [(2, .int (nI ((0 + 1) + 1))), (0, .ref 0), (1, .int (nI (X.pl)))]) (st' := [.int (nI ((X.pl + k))), .int (nI (X.pl)), .float 2, .ref 0]) (w2 := modW 0 S ((X.rf, X.wo, X.ta, X.ow, X.sl, X.sh, X.lt, X.ty, (X.pl + k), X.nu, X.od, X.tt, X.oo, X.on, X.wn, X.pd, X.li, X.rr, X.rn, X.dr) : ModN) K) rfl ?_
            refine ev_callM (Yc := mX7_isWord) (st := []) dX7_word_48 tw_1039 kX7_isWord (m_X7_isWord S ((X.rf, X.wo, X.ta, X.ow, X.sl, X.sh, X.lt, X.ty, (X.pl + k), X.nu, X.od, X.tt, X.oo, X.on, X.wn, X.pd, X.li, X.rr, X.rn, X.dr) : ModN) K 2 2 X.pl (X.pl + k) (by decide) (by decide) hT hL (by omega) hi1) rfl rfl rfl rfl (by decide) (Nat.le_of_ble_eq_true rfl) (Nat.le_refl _) (Nat.le_refl _) (fun r w' h => by obtain ⟨-, rfl⟩ := h; exact mod_eq) ?_
            rintro _ _ ⟨rfl, rfl⟩
            refine ev_eq (lv' := [(2, .int (nI ((0 + 1) + 1))), (0, .ref 0), (1, .int (nI (X.pl)))]) (st' := [.int (nI (b01 (splW X.lt 2 X.pl (X.pl + k))))]) (w' := modW 0 S ((X.rf, X.wo, X.ta, X.ow, X.sl, X.sh, X.lt, X.ty, (X.pl + k), X.nu, X.od, X.tt, X.oo, X.on, X.wn, X.pd, X.li, X.rr, X.rn, X.dr) : ModN) K) rfl rfl rfl ?_
            refine ev_ifeq_b (tgt := 56) dX7_word_51 (by decide) (fun h51 => ?_) (fun h51 => ?_)
            · skip
              have hn2 := h51
              refine ev_iinc_n (x := (0 + 1) + 1) (v := 1) dX7_word_56 rfl (by decide) ?_
              refine ev_eq (lv' := [(2, .int (nI (((0 + 1) + 1) + 1))), (0, .ref 0), (1, .int (nI (X.pl)))]) rfl rfl rfl ?_
              refine ev_b bX7_word_59_33 (lv' := [(2, .int (nI (((0 + 1) + 1) + 1))), (0, .ref 0), (1, .int (nI (X.pl)))]) (st' := [.int (nI (5)), .int (nI (((0 + 1) + 1) + 1))]) (w2 := modW 0 S ((X.rf, X.wo, X.ta, X.ow, X.sl, X.sh, X.lt, X.ty, (X.pl + k), X.nu, X.od, X.tt, X.oo, X.on, X.wn, X.pd, X.li, X.rr, X.rn, X.dr) : ModN) K) rfl ?_
              refine ev_icmp_ge_n (tgt := 62) (by omega) (by decide) dX7_word_33 (by decide) (fun h33 => (by exfalso; omega)) (fun h33 => ?_)
              refine ev_b bX7_word_36_42 (lv' := [(2, .int (nI (((0 + 1) + 1) + 1))), (0, .ref 0), (1, .int (nI (X.pl)))]) (st' := [.int (nI (((0 + 1) + 1) + 1)), .ref 12, .ref 0]) (w2 := modW 0 S ((X.rf, X.wo, X.ta, X.ow, X.sl, X.sh, X.lt, X.ty, (X.pl + k), X.nu, X.od, X.tt, X.oo, X.on, X.wn, X.pd, X.li, X.rr, X.rn, X.dr) : ModN) K) rfl ?_
              refine ev_sald (b := 3) dX7_word_42 rfl (by decide) (by decide) (by decide) ?_
              refine ev_b bX7_word_43_48 (lv' := [(2, .int (nI (((0 + 1) + 1) + 1))), (0, .ref 0), (1, .int (nI (X.pl)))]) (st' := [.int (nI ((X.pl + k))), .int (nI (X.pl)), .float 3, .ref 0]) (w2 := modW 0 S ((X.rf, X.wo, X.ta, X.ow, X.sl, X.sh, X.lt, X.ty, (X.pl + k), X.nu, X.od, X.tt, X.oo, X.on, X.wn, X.pd, X.li, X.rr, X.rn, X.dr) : ModN) K) rfl ?_
              refine ev_callM (Yc := mX7_isWord) (st := []) dX7_word_48 tw_1039 kX7_isWord (m_X7_isWord S ((X.rf, X.wo, X.ta, X.ow, X.sl, X.sh, X.lt, X.ty, (X.pl + k), X.nu, X.od, X.tt, X.oo, X.on, X.wn, X.pd, X.li, X.rr, X.rn, X.dr) : ModN) K 3 3 X.pl (X.pl + k) (by decide) (by decide) hT hL (by omega) hi1) rfl rfl rfl rfl (by decide) (Nat.le_of_ble_eq_true rfl) (Nat.le_refl _) (Nat.le_refl _) (fun r w' h => by obtain ⟨-, rfl⟩ := h; exact mod_eq) ?_
              rintro _ _ ⟨rfl, rfl⟩
              refine ev_eq (lv' := [(2, .int (nI (((0 + 1) + 1) + 1))), (0, .ref 0), (1, .int (nI (X.pl)))]) (st' := [.int (nI (b01 (splW X.lt 3 X.pl (X.pl + k))))]) (w' := modW 0 S ((X.rf, X.wo, X.ta, X.ow, X.sl, X.sh, X.lt, X.ty, (X.pl + k), X.nu, X.od, X.tt, X.oo, X.on, X.wn, X.pd, X.li, X.rr, X.rn, X.dr) : ModN) K) rfl rfl rfl ?_
              refine ev_ifeq_b (tgt := 56) dX7_word_51 (by decide) (fun h51 => ?_) (fun h51 => ?_)
              · skip
                have hn3 := h51
                refine ev_iinc_n (x := ((0 + 1) + 1) + 1) (v := 1) dX7_word_56 rfl (by decide) ?_
                refine ev_eq (lv' := [(2, .int (nI ((((0 + 1) + 1) + 1) + 1))), (0, .ref 0), (1, .int (nI (X.pl)))]) rfl rfl rfl ?_
                refine ev_b bX7_word_59_33 (lv' := [(2, .int (nI ((((0 + 1) + 1) + 1) + 1))), (0, .ref 0), (1, .int (nI (X.pl)))]) (st' := [.int (nI (5)), .int (nI ((((0 + 1) + 1) + 1) + 1))]) (w2 := modW 0 S ((X.rf, X.wo, X.ta, X.ow, X.sl, X.sh, X.lt, X.ty, (X.pl + k), X.nu, X.od, X.tt, X.oo, X.on, X.wn, X.pd, X.li, X.rr, X.rn, X.dr) : ModN) K) rfl ?_
                refine ev_icmp_ge_n (tgt := 62) (by omega) (by decide) dX7_word_33 (by decide) (fun h33 => (by exfalso; omega)) (fun h33 => ?_)
                refine ev_b bX7_word_36_42 (lv' := [(2, .int (nI ((((0 + 1) + 1) + 1) + 1))), (0, .ref 0), (1, .int (nI (X.pl)))]) (st' := [.int (nI ((((0 + 1) + 1) + 1) + 1)), .ref 12, .ref 0]) (w2 := modW 0 S ((X.rf, X.wo, X.ta, X.ow, X.sl, X.sh, X.lt, X.ty, (X.pl + k), X.nu, X.od, X.tt, X.oo, X.on, X.wn, X.pd, X.li, X.rr, X.rn, X.dr) : ModN) K) rfl ?_
                refine ev_sald (b := 4) dX7_word_42 rfl (by decide) (by decide) (by decide) ?_
                refine ev_b bX7_word_43_48 (lv' := [(2, .int (nI ((((0 + 1) + 1) + 1) + 1))), (0, .ref 0), (1, .int (nI (X.pl)))]) (st' := [.int (nI ((X.pl + k))), .int (nI (X.pl)), .float 4, .ref 0]) (w2 := modW 0 S ((X.rf, X.wo, X.ta, X.ow, X.sl, X.sh, X.lt, X.ty, (X.pl + k), X.nu, X.od, X.tt, X.oo, X.on, X.wn, X.pd, X.li, X.rr, X.rn, X.dr) : ModN) K) rfl ?_
                refine ev_callM (Yc := mX7_isWord) (st := []) dX7_word_48 tw_1039 kX7_isWord (m_X7_isWord S ((X.rf, X.wo, X.ta, X.ow, X.sl, X.sh, X.lt, X.ty, (X.pl + k), X.nu, X.od, X.tt, X.oo, X.on, X.wn, X.pd, X.li, X.rr, X.rn, X.dr) : ModN) K 4 4 X.pl (X.pl + k) (by decide) (by decide) hT hL (by omega) hi1) rfl rfl rfl rfl (by decide) (Nat.le_of_ble_eq_true rfl) (Nat.le_refl _) (Nat.le_refl _) (fun r w' h => by obtain ⟨-, rfl⟩ := h; exact mod_eq) ?_
                rintro _ _ ⟨rfl, rfl⟩
                refine ev_eq (lv' := [(2, .int (nI ((((0 + 1) + 1) + 1) + 1))), (0, .ref 0), (1, .int (nI (X.pl)))]) (st' := [.int (nI (b01 (splW X.lt 4 X.pl (X.pl + k))))]) (w' := modW 0 S ((X.rf, X.wo, X.ta, X.ow, X.sl, X.sh, X.lt, X.ty, (X.pl + k), X.nu, X.od, X.tt, X.oo, X.on, X.wn, X.pd, X.li, X.rr, X.rn, X.dr) : ModN) K) rfl rfl rfl ?_
                refine ev_ifeq_b (tgt := 56) dX7_word_51 (by decide) (fun h51 => ?_) (fun h51 => ?_)
                · skip
                  have hn4 := h51
                  refine ev_iinc_n (x := (((0 + 1) + 1) + 1) + 1) (v := 1) dX7_word_56 rfl (by decide) ?_
                  refine ev_eq (lv' := [(2, .int (nI (((((0 + 1) + 1) + 1) + 1) + 1))), (0, .ref 0), (1, .int (nI (X.pl)))]) rfl rfl rfl ?_
                  refine ev_b bX7_word_59_33 (lv' := [(2, .int (nI (((((0 + 1) + 1) + 1) + 1) + 1))), (0, .ref 0), (1, .int (nI (X.pl)))]) (st' := [.int (nI (5)), .int (nI (((((0 + 1) + 1) + 1) + 1) + 1))]) (w2 := modW 0 S ((X.rf, X.wo, X.ta, X.ow, X.sl, X.sh, X.lt, X.ty, (X.pl + k), X.nu, X.od, X.tt, X.oo, X.on, X.wn, X.pd, X.li, X.rr, X.rn, X.dr) : ModN) K) rfl ?_
                  refine ev_icmp_ge_n (tgt := 62) (by omega) (by decide) dX7_word_33 (by decide) (fun h33 => ?_) (fun h33 => (by exfalso; omega))
                  have e9 : (rdWord X.lt X.ty X.pl).1 = -1 := by show wordF X.lt X.pl (wrdEnd X.lt X.ty 96 X.pl) = -1; rw [hE]; exact (if_neg hn0).trans ((if_neg hn1).trans ((if_neg hn2).trans ((if_neg hn3).trans (if_neg hn4))))
                  refine ev_b bX7_word_62_69 (lv' := [(2, .int (nI (((((0 + 1) + 1) + 1) + 1) + 1))), (0, .ref 0), (1, .int (nI (X.pl)))]) (st' := [.int (-9)]) (w2 := modW 0 S ((X.rf, X.wo, X.ta, X.ow, X.sl, X.sh, X.lt, X.ty, X.pl, X.nu, X.od, X.tt, X.oo, X.on, X.wn, X.pd, X.li, X.rr, X.rn, X.dr) : ModN) K) rfl ?_
                  exact ev_iret dX7_word_69 rfl mod_le (Nat.le_refl _) (Nat.le_refl _) ⟨(by rw [e9]; exact congrArg (fun v => some (Value.int v)) (by decide)), (by rw [e9, if_pos rfl])⟩
                · skip
                  have e9 : (rdWord X.lt X.ty X.pl).1 = 4 := by show wordF X.lt X.pl (wrdEnd X.lt X.ty 96 X.pl) = 4; rw [hE]; exact (if_neg hn0).trans ((if_neg hn1).trans ((if_neg hn2).trans ((if_neg hn3).trans (if_pos h51))))
                  refine ev_b bX7_word_54_55 (lv' := [(2, .int (nI ((((0 + 1) + 1) + 1) + 1))), (0, .ref 0), (1, .int (nI (X.pl)))]) (st' := [.int (nI ((((0 + 1) + 1) + 1) + 1))]) (w2 := modW 0 S ((X.rf, X.wo, X.ta, X.ow, X.sl, X.sh, X.lt, X.ty, (X.pl + k), X.nu, X.od, X.tt, X.oo, X.on, X.wn, X.pd, X.li, X.rr, X.rn, X.dr) : ModN) K) rfl ?_
                  exact ev_iret dX7_word_55 rfl mod_le (Nat.le_refl _) (Nat.le_refl _) ⟨(congrArg (fun t => some (Value.int t)) (show nI ((((0 + 1) + 1) + 1) + 1) = zI ((if (rdWord X.lt X.ty X.pl).1 = -1 then -9 else (rdWord X.lt X.ty X.pl).1)) from by rw [← zI_nat]; exact congrArg zI (by rw [e9]; decide))), (by rw [e9, if_neg (by decide), show (rdWord X.lt X.ty X.pl).2.1 = X.pl + k from hE])⟩
              · skip
                have e9 : (rdWord X.lt X.ty X.pl).1 = 3 := by show wordF X.lt X.pl (wrdEnd X.lt X.ty 96 X.pl) = 3; rw [hE]; exact (if_neg hn0).trans ((if_neg hn1).trans ((if_neg hn2).trans (if_pos h51)))
                refine ev_b bX7_word_54_55 (lv' := [(2, .int (nI (((0 + 1) + 1) + 1))), (0, .ref 0), (1, .int (nI (X.pl)))]) (st' := [.int (nI (((0 + 1) + 1) + 1))]) (w2 := modW 0 S ((X.rf, X.wo, X.ta, X.ow, X.sl, X.sh, X.lt, X.ty, (X.pl + k), X.nu, X.od, X.tt, X.oo, X.on, X.wn, X.pd, X.li, X.rr, X.rn, X.dr) : ModN) K) rfl ?_
                exact ev_iret dX7_word_55 rfl mod_le (Nat.le_refl _) (Nat.le_refl _) ⟨(congrArg (fun t => some (Value.int t)) (show nI (((0 + 1) + 1) + 1) = zI ((if (rdWord X.lt X.ty X.pl).1 = -1 then -9 else (rdWord X.lt X.ty X.pl).1)) from by rw [← zI_nat]; exact congrArg zI (by rw [e9]; decide))), (by rw [e9, if_neg (by decide), show (rdWord X.lt X.ty X.pl).2.1 = X.pl + k from hE])⟩
            · skip
              have e9 : (rdWord X.lt X.ty X.pl).1 = 2 := by show wordF X.lt X.pl (wrdEnd X.lt X.ty 96 X.pl) = 2; rw [hE]; exact (if_neg hn0).trans ((if_neg hn1).trans (if_pos h51))
              refine ev_b bX7_word_54_55 (lv' := [(2, .int (nI ((0 + 1) + 1))), (0, .ref 0), (1, .int (nI (X.pl)))]) (st' := [.int (nI ((0 + 1) + 1))]) (w2 := modW 0 S ((X.rf, X.wo, X.ta, X.ow, X.sl, X.sh, X.lt, X.ty, (X.pl + k), X.nu, X.od, X.tt, X.oo, X.on, X.wn, X.pd, X.li, X.rr, X.rn, X.dr) : ModN) K) rfl ?_
              exact ev_iret dX7_word_55 rfl mod_le (Nat.le_refl _) (Nat.le_refl _) ⟨(congrArg (fun t => some (Value.int t)) (show nI ((0 + 1) + 1) = zI ((if (rdWord X.lt X.ty X.pl).1 = -1 then -9 else (rdWord X.lt X.ty X.pl).1)) from by rw [← zI_nat]; exact congrArg zI (by rw [e9]; decide))), (by rw [e9, if_neg (by decide), show (rdWord X.lt X.ty X.pl).2.1 = X.pl + k from hE])⟩
          · skip
            have e9 : (rdWord X.lt X.ty X.pl).1 = 1 := by show wordF X.lt X.pl (wrdEnd X.lt X.ty 96 X.pl) = 1; rw [hE]; exact (if_neg hn0).trans (if_pos h51)
            refine ev_b bX7_word_54_55 (lv' := [(2, .int (nI (0 + 1))), (0, .ref 0), (1, .int (nI (X.pl)))]) (st' := [.int (nI (0 + 1))]) (w2 := modW 0 S ((X.rf, X.wo, X.ta, X.ow, X.sl, X.sh, X.lt, X.ty, (X.pl + k), X.nu, X.od, X.tt, X.oo, X.on, X.wn, X.pd, X.li, X.rr, X.rn, X.dr) : ModN) K) rfl ?_
            exact ev_iret dX7_word_55 rfl mod_le (Nat.le_refl _) (Nat.le_refl _) ⟨(congrArg (fun t => some (Value.int t)) (show nI (0 + 1) = zI ((if (rdWord X.lt X.ty X.pl).1 = -1 then -9 else (rdWord X.lt X.ty X.pl).1)) from by rw [← zI_nat]; exact congrArg zI (by rw [e9]; decide))), (by rw [e9, if_neg (by decide), show (rdWord X.lt X.ty X.pl).2.1 = X.pl + k from hE])⟩
        · skip
          have e9 : (rdWord X.lt X.ty X.pl).1 = 0 := by show wordF X.lt X.pl (wrdEnd X.lt X.ty 96 X.pl) = 0; rw [hE]; exact if_pos h51
          refine ev_b bX7_word_54_55 (lv' := [(2, .int (nI (0))), (0, .ref 0), (1, .int (nI (X.pl)))]) (st' := [.int (nI (0))]) (w2 := modW 0 S ((X.rf, X.wo, X.ta, X.ow, X.sl, X.sh, X.lt, X.ty, (X.pl + k), X.nu, X.od, X.tt, X.oo, X.on, X.wn, X.pd, X.li, X.rr, X.rn, X.dr) : ModN) K) rfl ?_
          exact ev_iret dX7_word_55 rfl mod_le (Nat.le_refl _) (Nat.le_refl _) ⟨(congrArg (fun t => some (Value.int t)) (show nI (0) = zI ((if (rdWord X.lt X.ty X.pl).1 = -1 then -9 else (rdWord X.lt X.ty X.pl).1)) from by rw [← zI_nat]; exact congrArg zI (by rw [e9]; decide))), (by rw [e9, if_neg (by decide), show (rdWord X.lt X.ty X.pl).2.1 = X.pl + k from hE])⟩
      · skip
        have hsgk := sgz_lt (lt := X.lt) (n := X.ty) (p := X.pl + k) (by omega)
        have hnext : X.pl + (k + 1) ≤ X.ty ∧ wrdEnd X.lt X.ty (96 - (k + 1)) (X.pl + (k + 1)) = wrdEnd X.lt X.ty 96 X.pl := by
          refine ⟨by omega, ?_⟩
          rw [show 96 - k = (96 - (k + 1)) + 1 by omega, wrdEnd_s, if_pos h9] at hi2
          exact hi2
        refine ev_b bX7_word_12_18 (lv' := [(0, .ref 0), (1, .int (nI (X.pl)))]) (st' := [.int (nI (1)), .int (nI ((X.pl + k))), .ref 0]) (w2 := modW 0 S ((X.rf, X.wo, X.ta, X.ow, X.sl, X.sh, X.lt, X.ty, (X.pl + k), X.nu, X.od, X.tt, X.oo, X.on, X.wn, X.pd, X.li, X.rr, X.rn, X.dr) : ModN) K) rfl ?_
        refine ev_iadd_n dX7_word_18 ?_
        refine ev_b bX7_word_19_5 (lv' := [(0, .ref 0), (1, .int (nI (X.pl)))]) (st' := []) (w2 := modW 0 S ((X.rf, X.wo, X.ta, X.ow, X.sl, X.sh, X.lt, X.ty, ((X.pl + k)) + 1, X.nu, X.od, X.tt, X.oo, X.on, X.wn, X.pd, X.li, X.rr, X.rn, X.dr) : ModN) K) rfl ?_
        exact ih5 (k + 1) (by omega) hnext
  refine ev_pick (lv' := [(0, .ref 0), (1, .int (nI (X.pl)))]) rfl ?_
  exact L5 97 0 (by omega) ⟨hp, rfl⟩
