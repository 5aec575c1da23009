theorem bX7_fits_0_4 {l : Launch} {E : XE} : Snd l E mX7_fits 0 4 (xs [x_aload 0, x_get 8 20]) := Snd.cons (snd_aload_n (i := 0) dX7_fits_0 rfl) (Snd.cons (snd_get (ci := 8) (k := 20) dX7_fits_1 rfl inX7 (by decide) tw_934) Snd.nil)
theorem bX7_fits_9_10 {l : Launch} {E : XE} : Snd l E mX7_fits 9 10 (xs [x_iload 1]) := Snd.cons (snd_iload_n (i := 1) dX7_fits_9 rfl) Snd.nil
theorem bX7_fits_40_45 {l : Launch} {E : XE} : Snd l E mX7_fits 40 45 (xs [x_aload 0, x_get 8 21, x_push (.int (nI 0))]) := Snd.cons (snd_aload_n (i := 0) dX7_fits_40 rfl) (Snd.cons (snd_get (ci := 8) (k := 21) dX7_fits_41 rfl inX7 (by decide) tw_935) (Snd.cons (snd_iconst (v := nI 0) dX7_fits_44 (by decide)) Snd.nil))
theorem bX7_fits_46_47 {l : Launch} {E : XE} : Snd l E mX7_fits 46 47 (xs [x_push (.int (nI 5))]) := Snd.cons (snd_iconst (v := nI 5) dX7_fits_46 (by decide)) Snd.nil
theorem bX7_fits_72_73 {l : Launch} {E : XE} : Snd l E mX7_fits 72 73 (xs [x_push (.int (nI 0))]) := Snd.cons (snd_iconst (v := nI 0) dX7_fits_72 (by decide)) Snd.nil
theorem bX7_fits_50_55 {l : Launch} {E : XE} : Snd l E mX7_fits 50 55 (xs [x_aload 0, x_get 8 21, x_push (.int (nI 2))]) := Snd.cons (snd_aload_n (i := 0) dX7_fits_50 rfl) (Snd.cons (snd_get (ci := 8) (k := 21) dX7_fits_51 rfl inX7 (by decide) tw_935) (Snd.cons (snd_iconst (v := nI 2) dX7_fits_54 (by decide)) Snd.nil))
theorem bX7_fits_59_65 {l : Launch} {E : XE} : Snd l E mX7_fits 59 65 (xs [x_aload 0, x_get 8 6, x_push (.int (nI 10))]) := Snd.cons (snd_aload_n (i := 0) dX7_fits_59 rfl) (Snd.cons (snd_get (ci := 8) (k := 6) dX7_fits_60 rfl inX7 (by decide) tw_920) (Snd.cons (snd_bipush (v := nI 10) dX7_fits_63 (by decide)) Snd.nil))
theorem bX7_fits_68_73 {l : Launch} {E : XE} : Snd l E mX7_fits 68 73 (xs [x_push (.int (nI 1)), x_id]) := Snd.cons (snd_iconst (v := nI 1) dX7_fits_68 (by decide)) (Snd.cons (snd_goto (tgt := 73) dX7_fits_69 (by decide)) Snd.nil)
theorem bX7_fits_7_8 {l : Launch} {E : XE} : Snd l E mX7_fits 7 8 (xs [x_push (.int (nI 0))]) := Snd.cons (snd_iconst (v := nI 0) dX7_fits_7 (by decide)) Snd.nil
set_option maxHeartbeats 4000000 in
set_option maxRecDepth 100000 in
theorem m_X7_fits_0 {l : Launch} {E : XE} (S : SaleN) (X : ModN) (K : Option (Nat → Nat)) (ht : ∀ j, j < 3 → X.tt j ≤ 99) (ho : X.od ≤ 1) (hca : S.ca ≤ 10) : MetE l E mX7_fits (0) 0 0 [.ref 0, .int (nI (0))] (modW 0 S X K) (fun r w' => r = some (.int (nI (b01 (X.od = 0 ∧ X.tt 0 < 5 ∧ 0 < X.tt 2 ∧ S.ca < 10)))) ∧ w' = modW 0 S X K) := by
  refine MetE.of (by decide +kernel) (Nat.le_of_ble_eq_true rfl) ?_
  have ht0 := ht 0 (by decide)
  have ht1 := ht 1 (by decide)
  have ht2 := ht 2 (by decide)
  refine ev_eq (lv' := [(0, .ref 0), (1, .int (nI (0)))]) (st' := []) (w' := modW 0 S X K) rfl rfl rfl ?_
  refine ev_b bX7_fits_0_4 (lv' := [(0, .ref 0), (1, .int (nI (0)))]) (st' := [.int (nI (X.od))]) (w2 := modW 0 S X K) rfl ?_
  refine ev_if_eq_n (tgt := 9) (by omega) dX7_fits_4 (by decide) (fun h4 => ?_) (fun h4 => ?_)
  · skip
    refine ev_b bX7_fits_9_10 (lv' := [(0, .ref 0), (1, .int (nI (0)))]) (st' := [.int (nI (0))]) (w2 := modW 0 S X K) rfl ?_
    refine ev_tableIn (off := 30) (tgt := 40) dX7_fits_10 (by decide) (by decide) (by decide) (by decide) ?_
    refine ev_b bX7_fits_40_45 (lv' := [(0, .ref 0), (1, .int (nI (0)))]) (st' := [.int (nI (0)), .ref 14]) (w2 := modW 0 S X K) rfl ?_
    refine ev_iald_n (f := X.tt) dX7_fits_45 rfl (by omega) (by decide) ?_
    refine ev_b bX7_fits_46_47 (lv' := [(0, .ref 0), (1, .int (nI (0)))]) (st' := [.int (nI (5)), .int (nI (X.tt 0))]) (w2 := modW 0 S X K) rfl ?_
    refine ev_icmp_ge_n (tgt := 72) (by omega) (by decide) dX7_fits_47 (by decide) (fun h47 => ?_) (fun h47 => ?_)
    · skip
      refine ev_b bX7_fits_72_73 (lv' := [(0, .ref 0), (1, .int (nI (0)))]) (st' := [.int (nI (0))]) (w2 := modW 0 S X K) rfl ?_
      exact ev_zret dX7_fits_73 rfl rfl mod_le (Nat.le_refl _) (Nat.le_refl _) ⟨(congrArg (fun t => some (Value.int (nI t))) (b01_f (by omega)).symm), rfl⟩
    · skip
      refine ev_b bX7_fits_50_55 (lv' := [(0, .ref 0), (1, .int (nI (0)))]) (st' := [.int (nI (2)), .ref 14]) (w2 := modW 0 S X K) rfl ?_
      refine ev_iald_n (f := X.tt) dX7_fits_55 rfl (by omega) (by decide) ?_
      refine ev_if_le_n (tgt := 72) (by omega) dX7_fits_56 (by decide) (fun h56 => ?_) (fun h56 => ?_)
      · skip
        refine ev_b bX7_fits_72_73 (lv' := [(0, .ref 0), (1, .int (nI (0)))]) (st' := [.int (nI (0))]) (w2 := modW 0 S X K) rfl ?_
        exact ev_zret dX7_fits_73 rfl rfl mod_le (Nat.le_refl _) (Nat.le_refl _) ⟨(congrArg (fun t => some (Value.int (nI t))) (b01_f (by omega)).symm), rfl⟩
      · skip
        refine ev_b bX7_fits_59_65 (lv' := [(0, .ref 0), (1, .int (nI (0)))]) (st' := [.int (nI (10)), .int (nI (S.ca))]) (w2 := modW 0 S X K) rfl ?_
        refine ev_icmp_ge_n (tgt := 72) (by omega) (by decide) dX7_fits_65 (by decide) (fun h65 => ?_) (fun h65 => ?_)
        · skip
          refine ev_b bX7_fits_72_73 (lv' := [(0, .ref 0), (1, .int (nI (0)))]) (st' := [.int (nI (0))]) (w2 := modW 0 S X K) rfl ?_
          exact ev_zret dX7_fits_73 rfl rfl mod_le (Nat.le_refl _) (Nat.le_refl _) ⟨(congrArg (fun t => some (Value.int (nI t))) (b01_f (by omega)).symm), rfl⟩
        · skip
          refine ev_b bX7_fits_68_73 (lv' := [(0, .ref 0), (1, .int (nI (0)))]) (st' := [.int (nI (1))]) (w2 := modW 0 S X K) rfl ?_
          exact ev_zret dX7_fits_73 rfl rfl mod_le (Nat.le_refl _) (Nat.le_refl _) ⟨(congrArg (fun t => some (Value.int (nI t))) (b01_t (by omega)).symm), rfl⟩
  · skip
    refine ev_b bX7_fits_7_8 (lv' := [(0, .ref 0), (1, .int (nI (0)))]) (st' := [.int (nI (0))]) (w2 := modW 0 S X K) rfl ?_
    exact ev_zret dX7_fits_8 rfl rfl mod_le (Nat.le_refl _) (Nat.le_refl _) ⟨(congrArg (fun t => some (Value.int (nI t))) (b01_f (by omega)).symm), rfl⟩
theorem bX7_fits_74_79 {l : Launch} {E : XE} : Snd l E mX7_fits 74 79 (xs [x_aload 0, x_get 8 21, x_push (.int (nI 0))]) := Snd.cons (snd_aload_n (i := 0) dX7_fits_74 rfl) (Snd.cons (snd_get (ci := 8) (k := 21) dX7_fits_75 rfl inX7 (by decide) tw_935) (Snd.cons (snd_iconst (v := nI 0) dX7_fits_78 (by decide)) Snd.nil))
theorem bX7_fits_80_84 {l : Launch} {E : XE} : Snd l E mX7_fits 80 84 (xs [x_aload 0, x_get 8 6]) := Snd.cons (snd_aload_n (i := 0) dX7_fits_80 rfl) (Snd.cons (snd_get (ci := 8) (k := 6) dX7_fits_81 rfl inX7 (by decide) tw_920) Snd.nil)
theorem bX7_fits_91_92 {l : Launch} {E : XE} : Snd l E mX7_fits 91 92 (xs [x_push (.int (nI 0))]) := Snd.cons (snd_iconst (v := nI 0) dX7_fits_91 (by decide)) Snd.nil
theorem bX7_fits_87_92 {l : Launch} {E : XE} : Snd l E mX7_fits 87 92 (xs [x_push (.int (nI 1)), x_id]) := Snd.cons (snd_iconst (v := nI 1) dX7_fits_87 (by decide)) (Snd.cons (snd_goto (tgt := 92) dX7_fits_88 (by decide)) Snd.nil)
set_option maxHeartbeats 4000000 in
set_option maxRecDepth 100000 in
theorem m_X7_fits_1 {l : Launch} {E : XE} (S : SaleN) (X : ModN) (K : Option (Nat → Nat)) (ht : ∀ j, j < 1 → X.tt j ≤ 99) (ho : X.od ≤ 1) (hca : S.ca ≤ 10) : MetE l E mX7_fits (0) 0 0 [.ref 0, .int (nI (1))] (modW 0 S X K) (fun r w' => r = some (.int (nI (b01 (X.od = 0 ∧ X.tt 0 < S.ca)))) ∧ w' = modW 0 S X K) := by
  refine MetE.of (by decide +kernel) (Nat.le_of_ble_eq_true rfl) ?_
  have ht0 := ht 0 (by decide)
  refine ev_eq (lv' := [(0, .ref 0), (1, .int (nI (1)))]) (st' := []) (w' := modW 0 S X K) rfl rfl rfl ?_
  refine ev_b bX7_fits_0_4 (lv' := [(0, .ref 0), (1, .int (nI (1)))]) (st' := [.int (nI (X.od))]) (w2 := modW 0 S X K) rfl ?_
  refine ev_if_eq_n (tgt := 9) (by omega) dX7_fits_4 (by decide) (fun h4 => ?_) (fun h4 => ?_)
  · skip
    refine ev_b bX7_fits_9_10 (lv' := [(0, .ref 0), (1, .int (nI (1)))]) (st' := [.int (nI (1))]) (w2 := modW 0 S X K) rfl ?_
    refine ev_tableIn (off := 64) (tgt := 74) dX7_fits_10 (by decide) (by decide) (by decide) (by decide) ?_
    refine ev_b bX7_fits_74_79 (lv' := [(0, .ref 0), (1, .int (nI (1)))]) (st' := [.int (nI (0)), .ref 14]) (w2 := modW 0 S X K) rfl ?_
    refine ev_iald_n (f := X.tt) dX7_fits_79 rfl (by omega) (by decide) ?_
    refine ev_b bX7_fits_80_84 (lv' := [(0, .ref 0), (1, .int (nI (1)))]) (st' := [.int (nI (S.ca)), .int (nI (X.tt 0))]) (w2 := modW 0 S X K) rfl ?_
    refine ev_icmp_ge_n (tgt := 91) (by omega) (by omega) dX7_fits_84 (by decide) (fun h84 => ?_) (fun h84 => ?_)
    · skip
      refine ev_b bX7_fits_91_92 (lv' := [(0, .ref 0), (1, .int (nI (1)))]) (st' := [.int (nI (0))]) (w2 := modW 0 S X K) rfl ?_
      exact ev_zret dX7_fits_92 rfl rfl mod_le (Nat.le_refl _) (Nat.le_refl _) ⟨(congrArg (fun t => some (Value.int (nI t))) (b01_f (by omega)).symm), rfl⟩
    · skip
      refine ev_b bX7_fits_87_92 (lv' := [(0, .ref 0), (1, .int (nI (1)))]) (st' := [.int (nI (1))]) (w2 := modW 0 S X K) rfl ?_
      exact ev_zret dX7_fits_92 rfl rfl mod_le (Nat.le_refl _) (Nat.le_refl _) ⟨(congrArg (fun t => some (Value.int (nI t))) (b01_t (by omega)).symm), rfl⟩
  · skip
    refine ev_b bX7_fits_7_8 (lv' := [(0, .ref 0), (1, .int (nI (1)))]) (st' := [.int (nI (0))]) (w2 := modW 0 S X K) rfl ?_
    exact ev_zret dX7_fits_8 rfl rfl mod_le (Nat.le_refl _) (Nat.le_refl _) ⟨(congrArg (fun t => some (Value.int (nI t))) (b01_f (by omega)).symm), rfl⟩
theorem bX7_fits_93_98 {l : Launch} {E : XE} : Snd l E mX7_fits 93 98 (xs [x_aload 0, x_get 8 21, x_push (.int (nI 0))]) := Snd.cons (snd_aload_n (i := 0) dX7_fits_93 rfl) (Snd.cons (snd_get (ci := 8) (k := 21) dX7_fits_94 rfl inX7 (by decide) tw_935) (Snd.cons (snd_iconst (v := nI 0) dX7_fits_97 (by decide)) Snd.nil))
theorem bX7_fits_99_100 {l : Launch} {E : XE} : Snd l E mX7_fits 99 100 (xs [x_push (.int (nI 5))]) := Snd.cons (snd_iconst (v := nI 5) dX7_fits_99 (by decide)) Snd.nil
theorem bX7_fits_129_130 {l : Launch} {E : XE} : Snd l E mX7_fits 129 130 (xs [x_push (.int (nI 0))]) := Snd.cons (snd_iconst (v := nI 0) dX7_fits_129 (by decide)) Snd.nil
theorem bX7_fits_103_108 {l : Launch} {E : XE} : Snd l E mX7_fits 103 108 (xs [x_aload 0, x_get 8 21, x_push (.int (nI 1))]) := Snd.cons (snd_aload_n (i := 0) dX7_fits_103 rfl) (Snd.cons (snd_get (ci := 8) (k := 21) dX7_fits_104 rfl inX7 (by decide) tw_935) (Snd.cons (snd_iconst (v := nI 1) dX7_fits_107 (by decide)) Snd.nil))
theorem bX7_fits_109_111 {l : Launch} {E : XE} : Snd l E mX7_fits 109 111 (xs [x_push (.int (nI 6))]) := Snd.cons (snd_bipush (v := nI 6) dX7_fits_109 (by decide)) Snd.nil
theorem bX7_fits_114_119 {l : Launch} {E : XE} : Snd l E mX7_fits 114 119 (xs [x_aload 0, x_get 8 21, x_push (.int (nI 2))]) := Snd.cons (snd_aload_n (i := 0) dX7_fits_114 rfl) (Snd.cons (snd_get (ci := 8) (k := 21) dX7_fits_115 rfl inX7 (by decide) tw_935) (Snd.cons (snd_iconst (v := nI 2) dX7_fits_118 (by decide)) Snd.nil))
theorem bX7_fits_120_122 {l : Launch} {E : XE} : Snd l E mX7_fits 120 122 (xs [x_push (.int (nI 10))]) := Snd.cons (snd_bipush (v := nI 10) dX7_fits_120 (by decide)) Snd.nil
theorem bX7_fits_125_130 {l : Launch} {E : XE} : Snd l E mX7_fits 125 130 (xs [x_push (.int (nI 1)), x_id]) := Snd.cons (snd_iconst (v := nI 1) dX7_fits_125 (by decide)) (Snd.cons (snd_goto (tgt := 130) dX7_fits_126 (by decide)) Snd.nil)
set_option maxHeartbeats 4000000 in
set_option maxRecDepth 100000 in
theorem m_X7_fits_2 {l : Launch} {E : XE} (S : SaleN) (X : ModN) (K : Option (Nat → Nat)) (ht : ∀ j, j < 3 → X.tt j ≤ 99) (ho : X.od ≤ 1) (hca : S.ca ≤ 10) : MetE l E mX7_fits (0) 0 0 [.ref 0, .int (nI (2))] (modW 0 S X K) (fun r w' => r = some (.int (nI (b01 (X.od = 0 ∧ X.tt 0 < 5 ∧ X.tt 1 < 6 ∧ X.tt 2 < 10)))) ∧ w' = modW 0 S X K) := by
  refine MetE.of (by decide +kernel) (Nat.le_of_ble_eq_true rfl) ?_
  have ht0 := ht 0 (by decide)
  have ht1 := ht 1 (by decide)
  have ht2 := ht 2 (by decide)
  refine ev_eq (lv' := [(0, .ref 0), (1, .int (nI (2)))]) (st' := []) (w' := modW 0 S X K) rfl rfl rfl ?_
  refine ev_b bX7_fits_0_4 (lv' := [(0, .ref 0), (1, .int (nI (2)))]) (st' := [.int (nI (X.od))]) (w2 := modW 0 S X K) rfl ?_
  refine ev_if_eq_n (tgt := 9) (by omega) dX7_fits_4 (by decide) (fun h4 => ?_) (fun h4 => ?_)
  · skip
    refine ev_b bX7_fits_9_10 (lv' := [(0, .ref 0), (1, .int (nI (2)))]) (st' := [.int (nI (2))]) (w2 := modW 0 S X K) rfl ?_
    refine ev_tableIn (off := 83) (tgt := 93) dX7_fits_10 (by decide) (by decide) (by decide) (by decide) ?_
    refine ev_b bX7_fits_93_98 (lv' := [(0, .ref 0), (1, .int (nI (2)))]) (st' := [.int (nI (0)), .ref 14]) (w2 := modW 0 S X K) rfl ?_
    refine ev_iald_n (f := X.tt) dX7_fits_98 rfl (by omega) (by decide) ?_
    refine ev_b bX7_fits_99_100 (lv' := [(0, .ref 0), (1, .int (nI (2)))]) (st' := [.int (nI (5)), .int (nI (X.tt 0))]) (w2 := modW 0 S X K) rfl ?_
    refine ev_icmp_ge_n (tgt := 129) (by omega) (by decide) dX7_fits_100 (by decide) (fun h100 => ?_) (fun h100 => ?_)
    · skip
      refine ev_b bX7_fits_129_130 (lv' := [(0, .ref 0), (1, .int (nI (2)))]) (st' := [.int (nI (0))]) (w2 := modW 0 S X K) rfl ?_
      exact ev_zret dX7_fits_130 rfl rfl mod_le (Nat.le_refl _) (Nat.le_refl _) ⟨(congrArg (fun t => some (Value.int (nI t))) (b01_f (by omega)).symm), rfl⟩
    · skip
      refine ev_b bX7_fits_103_108 (lv' := [(0, .ref 0), (1, .int (nI (2)))]) (st' := [.int (nI (1)), .ref 14]) (w2 := modW 0 S X K) rfl ?_
      refine ev_iald_n (f := X.tt) dX7_fits_108 rfl (by omega) (by decide) ?_
      refine ev_b bX7_fits_109_111 (lv' := [(0, .ref 0), (1, .int (nI (2)))]) (st' := [.int (nI (6)), .int (nI (X.tt 1))]) (w2 := modW 0 S X K) rfl ?_
      refine ev_icmp_ge_n (tgt := 129) (by omega) (by decide) dX7_fits_111 (by decide) (fun h111 => ?_) (fun h111 => ?_)
      · skip
        refine ev_b bX7_fits_129_130 (lv' := [(0, .ref 0), (1, .int (nI (2)))]) (st' := [.int (nI (0))]) (w2 := modW 0 S X K) rfl ?_
        exact ev_zret dX7_fits_130 rfl rfl mod_le (Nat.le_refl _) (Nat.le_refl _) ⟨(congrArg (fun t => some (Value.int (nI t))) (b01_f (by omega)).symm), rfl⟩
      · skip
        refine ev_b bX7_fits_114_119 (lv' := [(0, .ref 0), (1, .int (nI (2)))]) (st' := [.int (nI (2)), .ref 14]) (w2 := modW 0 S X K) rfl ?_
        refine ev_iald_n (f := X.tt) dX7_fits_119 rfl (by omega) (by decide) ?_
        refine ev_b bX7_fits_120_122 (lv' := [(0, .ref 0), (1, .int (nI (2)))]) (st' := [.int (nI (10)), .int (nI (X.tt 2))]) (w2 := modW 0 S X K) rfl ?_
        refine ev_icmp_ge_n (tgt := 129) (by omega) (by decide) dX7_fits_122 (by decide) (fun h122 => ?_) (fun h122 => ?_)
        · skip
          refine ev_b bX7_fits_129_130 (lv' := [(0, .ref 0), (1, .int (nI (2)))]) (st' := [.int (nI (0))]) (w2 := modW 0 S X K) rfl ?_
          exact ev_zret dX7_fits_130 rfl rfl mod_le (Nat.le_refl _) (Nat.le_refl _) ⟨(congrArg (fun t => some (Value.int (nI t))) (b01_f (by omega)).symm), rfl⟩
        · skip
          refine ev_b bX7_fits_125_130 (lv' := [(0, .ref 0), (1, .int (nI (2)))]) (st' := [.int (nI (1))]) (w2 := modW 0 S X K) rfl ?_
          exact ev_zret dX7_fits_130 rfl rfl mod_le (Nat.le_refl _) (Nat.le_refl _) ⟨(congrArg (fun t => some (Value.int (nI t))) (b01_t (by omega)).symm), rfl⟩
  · skip
    refine ev_b bX7_fits_7_8 (lv' := [(0, .ref 0), (1, .int (nI (2)))]) (st' := [.int (nI (0))]) (w2 := modW 0 S X K) rfl ?_
    exact ev_zret dX7_fits_8 rfl rfl mod_le (Nat.le_refl _) (Nat.le_refl _) ⟨(congrArg (fun t => some (Value.int (nI t))) (b01_f (by omega)).symm), rfl⟩
theorem bX7_fits_131_136 {l : Launch} {E : XE} : Snd l E mX7_fits 131 136 (xs [x_aload 0, x_get 8 21, x_push (.int (nI 1))]) := Snd.cons (snd_aload_n (i := 0) dX7_fits_131 rfl) (Snd.cons (snd_get (ci := 8) (k := 21) dX7_fits_132 rfl inX7 (by decide) tw_935) (Snd.cons (snd_iconst (v := nI 1) dX7_fits_135 (by decide)) Snd.nil))
theorem bX7_fits_137_139 {l : Launch} {E : XE} : Snd l E mX7_fits 137 139 (xs [x_push (.int (nI 10))]) := Snd.cons (snd_bipush (v := nI 10) dX7_fits_137 (by decide)) Snd.nil
theorem bX7_fits_146_147 {l : Launch} {E : XE} : Snd l E mX7_fits 146 147 (xs [x_push (.int (nI 0))]) := Snd.cons (snd_iconst (v := nI 0) dX7_fits_146 (by decide)) Snd.nil
theorem bX7_fits_142_147 {l : Launch} {E : XE} : Snd l E mX7_fits 142 147 (xs [x_push (.int (nI 1)), x_id]) := Snd.cons (snd_iconst (v := nI 1) dX7_fits_142 (by decide)) (Snd.cons (snd_goto (tgt := 147) dX7_fits_143 (by decide)) Snd.nil)
set_option maxHeartbeats 4000000 in
set_option maxRecDepth 100000 in
theorem m_X7_fits_3 {l : Launch} {E : XE} (S : SaleN) (X : ModN) (K : Option (Nat → Nat)) (ht : ∀ j, j < 2 → X.tt j ≤ 99) (ho : X.od ≤ 1) (hca : S.ca ≤ 10) : MetE l E mX7_fits (0) 0 0 [.ref 0, .int (nI (3))] (modW 0 S X K) (fun r w' => r = some (.int (nI (b01 (X.od = 0 ∧ X.tt 1 < 10)))) ∧ w' = modW 0 S X K) := by
  refine MetE.of (by decide +kernel) (Nat.le_of_ble_eq_true rfl) ?_
  have ht0 := ht 0 (by decide)
  have ht1 := ht 1 (by decide)
  refine ev_eq (lv' := [(0, .ref 0), (1, .int (nI (3)))]) (st' := []) (w' := modW 0 S X K) rfl rfl rfl ?_
  refine ev_b bX7_fits_0_4 (lv' := [(0, .ref 0), (1, .int (nI (3)))]) (st' := [.int (nI (X.od))]) (w2 := modW 0 S X K) rfl ?_
  refine ev_if_eq_n (tgt := 9) (by omega) dX7_fits_4 (by decide) (fun h4 => ?_) (fun h4 => ?_)
  · skip
    refine ev_b bX7_fits_9_10 (lv' := [(0, .ref 0), (1, .int (nI (3)))]) (st' := [.int (nI (3))]) (w2 := modW 0 S X K) rfl ?_
    refine ev_tableIn (off := 121) (tgt := 131) dX7_fits_10 (by decide) (by decide) (by decide) (by decide) ?_
    refine ev_b bX7_fits_131_136 (lv' := [(0, .ref 0), (1, .int (nI (3)))]) (st' := [.int (nI (1)), .ref 14]) (w2 := modW 0 S X K) rfl ?_
    refine ev_iald_n (f := X.tt) dX7_fits_136 rfl (by omega) (by decide) ?_
    refine ev_b bX7_fits_137_139 (lv' := [(0, .ref 0), (1, .int (nI (3)))]) (st' := [.int (nI (10)), .int (nI (X.tt 1))]) (w2 := modW 0 S X K) rfl ?_
    refine ev_icmp_ge_n (tgt := 146) (by omega) (by decide) dX7_fits_139 (by decide) (fun h139 => ?_) (fun h139 => ?_)
    · skip
      refine ev_b bX7_fits_146_147 (lv' := [(0, .ref 0), (1, .int (nI (3)))]) (st' := [.int (nI (0))]) (w2 := modW 0 S X K) rfl ?_
      exact ev_zret dX7_fits_147 rfl rfl mod_le (Nat.le_refl _) (Nat.le_refl _) ⟨(congrArg (fun t => some (Value.int (nI t))) (b01_f (by omega)).symm), rfl⟩
    · skip
      refine ev_b bX7_fits_142_147 (lv' := [(0, .ref 0), (1, .int (nI (3)))]) (st' := [.int (nI (1))]) (w2 := modW 0 S X K) rfl ?_
      exact ev_zret dX7_fits_147 rfl rfl mod_le (Nat.le_refl _) (Nat.le_refl _) ⟨(congrArg (fun t => some (Value.int (nI t))) (b01_t (by omega)).symm), rfl⟩
  · skip
    refine ev_b bX7_fits_7_8 (lv' := [(0, .ref 0), (1, .int (nI (3)))]) (st' := [.int (nI (0))]) (w2 := modW 0 S X K) rfl ?_
    exact ev_zret dX7_fits_8 rfl rfl mod_le (Nat.le_refl _) (Nat.le_refl _) ⟨(congrArg (fun t => some (Value.int (nI t))) (b01_f (by omega)).symm), rfl⟩
theorem bX7_fits_148_153 {l : Launch} {E : XE} : Snd l E mX7_fits 148 153 (xs [x_aload 0, x_get 8 21, x_push (.int (nI 0))]) := Snd.cons (snd_aload_n (i := 0) dX7_fits_148 rfl) (Snd.cons (snd_get (ci := 8) (k := 21) dX7_fits_149 rfl inX7 (by decide) tw_935) (Snd.cons (snd_iconst (v := nI 0) dX7_fits_152 (by decide)) Snd.nil))
theorem bX7_fits_154_158 {l : Launch} {E : XE} : Snd l E mX7_fits 154 158 (xs [x_aload 0, x_get 8 6]) := Snd.cons (snd_aload_n (i := 0) dX7_fits_154 rfl) (Snd.cons (snd_get (ci := 8) (k := 6) dX7_fits_155 rfl inX7 (by decide) tw_920) Snd.nil)
theorem bX7_fits_174_175 {l : Launch} {E : XE} : Snd l E mX7_fits 174 175 (xs [x_push (.int (nI 0))]) := Snd.cons (snd_iconst (v := nI 0) dX7_fits_174 (by decide)) Snd.nil
theorem bX7_fits_161_166 {l : Launch} {E : XE} : Snd l E mX7_fits 161 166 (xs [x_aload 0, x_get 8 21, x_push (.int (nI 1))]) := Snd.cons (snd_aload_n (i := 0) dX7_fits_161 rfl) (Snd.cons (snd_get (ci := 8) (k := 21) dX7_fits_162 rfl inX7 (by decide) tw_935) (Snd.cons (snd_iconst (v := nI 1) dX7_fits_165 (by decide)) Snd.nil))
theorem bX7_fits_170_175 {l : Launch} {E : XE} : Snd l E mX7_fits 170 175 (xs [x_push (.int (nI 1)), x_id]) := Snd.cons (snd_iconst (v := nI 1) dX7_fits_170 (by decide)) (Snd.cons (snd_goto (tgt := 175) dX7_fits_171 (by decide)) Snd.nil)
set_option maxHeartbeats 4000000 in
set_option maxRecDepth 100000 in
theorem m_X7_fits_4 {l : Launch} {E : XE} (S : SaleN) (X : ModN) (K : Option (Nat → Nat)) (ht : ∀ j, j < 2 → X.tt j ≤ 99) (ho : X.od ≤ 1) (hca : S.ca ≤ 10) : MetE l E mX7_fits (0) 0 0 [.ref 0, .int (nI (4))] (modW 0 S X K) (fun r w' => r = some (.int (nI (b01 (X.od = 0 ∧ X.tt 0 < S.ca ∧ 0 < X.tt 1)))) ∧ w' = modW 0 S X K) := by
  refine MetE.of (by decide +kernel) (Nat.le_of_ble_eq_true rfl) ?_
  have ht0 := ht 0 (by decide)
  have ht1 := ht 1 (by decide)
  refine ev_eq (lv' := [(0, .ref 0), (1, .int (nI (4)))]) (st' := []) (w' := modW 0 S X K) rfl rfl rfl ?_
  refine ev_b bX7_fits_0_4 (lv' := [(0, .ref 0), (1, .int (nI (4)))]) (st' := [.int (nI (X.od))]) (w2 := modW 0 S X K) rfl ?_
  refine ev_if_eq_n (tgt := 9) (by omega) dX7_fits_4 (by decide) (fun h4 => ?_) (fun h4 => ?_)
  · skip
    refine ev_b bX7_fits_9_10 (lv' := [(0, .ref 0), (1, .int (nI (4)))]) (st' := [.int (nI (4))]) (w2 := modW 0 S X K) rfl ?_
    refine ev_tableOut (tgt := 148) dX7_fits_10 (by decide) (by decide) ?_
    refine ev_b bX7_fits_148_153 (lv' := [(0, .ref 0), (1, .int (nI (4)))]) (st' := [.int (nI (0)), .ref 14]) (w2 := modW 0 S X K) rfl ?_
    refine ev_iald_n (f := X.tt) dX7_fits_153 rfl (by omega) (by decide) ?_
    refine ev_b bX7_fits_154_158 (lv' := [(0, .ref 0), (1, .int (nI (4)))]) (st' := [.int (nI (S.ca)), .int (nI (X.tt 0))]) (w2 := modW 0 S X K) rfl ?_
    refine ev_icmp_ge_n (tgt := 174) (by omega) (by omega) dX7_fits_158 (by decide) (fun h158 => ?_) (fun h158 => ?_)
    · skip
      refine ev_b bX7_fits_174_175 (lv' := [(0, .ref 0), (1, .int (nI (4)))]) (st' := [.int (nI (0))]) (w2 := modW 0 S X K) rfl ?_
      exact ev_zret dX7_fits_175 rfl rfl mod_le (Nat.le_refl _) (Nat.le_refl _) ⟨(congrArg (fun t => some (Value.int (nI t))) (b01_f (by omega)).symm), rfl⟩
    · skip
      refine ev_b bX7_fits_161_166 (lv' := [(0, .ref 0), (1, .int (nI (4)))]) (st' := [.int (nI (1)), .ref 14]) (w2 := modW 0 S X K) rfl ?_
      refine ev_iald_n (f := X.tt) dX7_fits_166 rfl (by omega) (by decide) ?_
      refine ev_if_le_n (tgt := 174) (by omega) dX7_fits_167 (by decide) (fun h167 => ?_) (fun h167 => ?_)
      · skip
        refine ev_b bX7_fits_174_175 (lv' := [(0, .ref 0), (1, .int (nI (4)))]) (st' := [.int (nI (0))]) (w2 := modW 0 S X K) rfl ?_
        exact ev_zret dX7_fits_175 rfl rfl mod_le (Nat.le_refl _) (Nat.le_refl _) ⟨(congrArg (fun t => some (Value.int (nI t))) (b01_f (by omega)).symm), rfl⟩
      · skip
        refine ev_b bX7_fits_170_175 (lv' := [(0, .ref 0), (1, .int (nI (4)))]) (st' := [.int (nI (1))]) (w2 := modW 0 S X K) rfl ?_
        exact ev_zret dX7_fits_175 rfl rfl mod_le (Nat.le_refl _) (Nat.le_refl _) ⟨(congrArg (fun t => some (Value.int (nI t))) (b01_t (by omega)).symm), rfl⟩
  · skip
    refine ev_b bX7_fits_7_8 (lv' := [(0, .ref 0), (1, .int (nI (4)))]) (st' := [.int (nI (0))]) (w2 := modW 0 S X K) rfl ?_
    exact ev_zret dX7_fits_8 rfl rfl mod_le (Nat.le_refl _) (Nat.le_refl _) ⟨(congrArg (fun t => some (Value.int (nI t))) (b01_f (by omega)).symm), rfl⟩
