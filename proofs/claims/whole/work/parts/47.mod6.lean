theorem bX7_layBack_0_4 {l : Launch} {E : XE} : Snd l E mX7_layBack 0 4 (xs [x_push (.int (nI 0)), x_istore 2, x_push (.int (nI 0)), x_istore 3]) := Snd.cons (snd_iconst (v := nI 0) dX7_layBack_0 (by decide)) (Snd.cons (snd_istore_n (i := 2) dX7_layBack_1 rfl (by decide)) (Snd.cons (snd_iconst (v := nI 0) dX7_layBack_2 (by decide)) (Snd.cons (snd_istore_n (i := 3) dX7_layBack_3 rfl (by decide)) Snd.nil)))
theorem bX7_layBack_4_7 {l : Launch} {E : XE} : Snd l E mX7_layBack 4 7 (xs [x_iload 3, x_push (.int (nI 6))]) := Snd.cons (snd_iload_n (i := 3) dX7_layBack_4 rfl) (Snd.cons (snd_bipush (v := nI 6) dX7_layBack_5 (by decide)) Snd.nil)
theorem bX7_layBack_28_30 {l : Launch} {E : XE} : Snd l E mX7_layBack 28 30 (xs [x_push (.int (nI 0)), x_istore 3]) := Snd.cons (snd_iconst (v := nI 0) dX7_layBack_28 (by decide)) (Snd.cons (snd_istore_n (i := 3) dX7_layBack_29 rfl (by decide)) Snd.nil)
theorem bX7_layBack_30_32 {l : Launch} {E : XE} : Snd l E mX7_layBack 30 32 (xs [x_iload 3, x_push (.int (nI 5))]) := Snd.cons (snd_iload_n (i := 3) dX7_layBack_30 rfl) (Snd.cons (snd_iconst (v := nI 5) dX7_layBack_31 (by decide)) Snd.nil)
theorem bX7_layBack_65_67 {l : Launch} {E : XE} : Snd l E mX7_layBack 65 67 (xs [x_push (.int (nI 0)), x_istore 3]) := Snd.cons (snd_iconst (v := nI 0) dX7_layBack_65 (by decide)) (Snd.cons (snd_istore_n (i := 3) dX7_layBack_66 rfl (by decide)) Snd.nil)
theorem bX7_layBack_67_70 {l : Launch} {E : XE} : Snd l E mX7_layBack 67 70 (xs [x_iload 3, x_push (.int (nI 10))]) := Snd.cons (snd_iload_n (i := 3) dX7_layBack_67 rfl) (Snd.cons (snd_bipush (v := nI 10) dX7_layBack_68 (by decide)) Snd.nil)
theorem bX7_layBack_115_118 {l : Launch} {E : XE} : Snd l E mX7_layBack 115 118 (xs [x_aload 0, x_aload 1, x_iload 2]) := Snd.cons (snd_aload_n (i := 0) dX7_layBack_115 rfl) (Snd.cons (snd_aload_n (i := 1) dX7_layBack_116 rfl) (Snd.cons (snd_iload_n (i := 2) dX7_layBack_117 rfl) Snd.nil))
theorem bX7_layBack_119_126 {l : Launch} {E : XE} : Snd l E mX7_layBack 119 126 (xs [x_puti 8 6, x_aload 0, x_aload 1, x_iload 2, x_push (.int (nI 1))]) := Snd.cons (snd_puti (ci := 8) (k := 6) dX7_layBack_119 rfl inX7 tyX7_ok nmX7 (by decide) tw_920 rfl rfl) (Snd.cons (snd_aload_n (i := 0) dX7_layBack_122 rfl) (Snd.cons (snd_aload_n (i := 1) dX7_layBack_123 rfl) (Snd.cons (snd_iload_n (i := 2) dX7_layBack_124 rfl) (Snd.cons (snd_iconst (v := nI 1) dX7_layBack_125 (by decide)) Snd.nil))))
theorem bX7_layBack_128_133 {l : Launch} {E : XE} : Snd l E mX7_layBack 128 133 (xs [x_puti 8 7, x_aload 0, x_push (.int (nI 1))]) := Snd.cons (snd_puti (ci := 8) (k := 7) dX7_layBack_128 rfl inX7 tyX7_ok nmX7 (by decide) tw_921 rfl rfl) (Snd.cons (snd_aload_n (i := 0) dX7_layBack_131 rfl) (Snd.cons (snd_iconst (v := nI 1) dX7_layBack_132 (by decide)) Snd.nil))
theorem bX7_layBack_73_80 {l : Launch} {E : XE} : Snd l E mX7_layBack 73 80 (xs [x_aload 0, x_get 8 3, x_iload 3, x_aload 1, x_iload 2]) := Snd.cons (snd_aload_n (i := 0) dX7_layBack_73 rfl) (Snd.cons (snd_get (ci := 8) (k := 3) dX7_layBack_74 rfl inX7 (by decide) tw_917) (Snd.cons (snd_iload_n (i := 3) dX7_layBack_77 rfl) (Snd.cons (snd_aload_n (i := 1) dX7_layBack_78 rfl) (Snd.cons (snd_iload_n (i := 2) dX7_layBack_79 rfl) Snd.nil))))
theorem bX7_layBack_85_92 {l : Launch} {E : XE} : Snd l E mX7_layBack 85 92 (xs [x_aload 0, x_get 8 4, x_iload 3, x_aload 1, x_iload 2]) := Snd.cons (snd_aload_n (i := 0) dX7_layBack_85 rfl) (Snd.cons (snd_get (ci := 8) (k := 4) dX7_layBack_86 rfl inX7 (by decide) tw_918) (Snd.cons (snd_iload_n (i := 3) dX7_layBack_89 rfl) (Snd.cons (snd_aload_n (i := 1) dX7_layBack_90 rfl) (Snd.cons (snd_iload_n (i := 2) dX7_layBack_91 rfl) Snd.nil))))
theorem bX7_layBack_97_104 {l : Launch} {E : XE} : Snd l E mX7_layBack 97 104 (xs [x_aload 0, x_get 8 5, x_iload 3, x_aload 1, x_iload 2]) := Snd.cons (snd_aload_n (i := 0) dX7_layBack_97 rfl) (Snd.cons (snd_get (ci := 8) (k := 5) dX7_layBack_98 rfl inX7 (by decide) tw_919) (Snd.cons (snd_iload_n (i := 3) dX7_layBack_101 rfl) (Snd.cons (snd_aload_n (i := 1) dX7_layBack_102 rfl) (Snd.cons (snd_iload_n (i := 2) dX7_layBack_103 rfl) Snd.nil))))
theorem bX7_layBack_112_67 {l : Launch} {E : XE} : Snd l E mX7_layBack 112 67 (xs [x_id]) := Snd.cons (snd_goto (tgt := 67) dX7_layBack_112 (by decide)) Snd.nil
theorem bX7_layBack_35_42 {l : Launch} {E : XE} : Snd l E mX7_layBack 35 42 (xs [x_aload 0, x_get 8 1, x_iload 3, x_aload 1, x_iload 2]) := Snd.cons (snd_aload_n (i := 0) dX7_layBack_35 rfl) (Snd.cons (snd_get (ci := 8) (k := 1) dX7_layBack_36 rfl inX7 (by decide) tw_915) (Snd.cons (snd_iload_n (i := 3) dX7_layBack_39 rfl) (Snd.cons (snd_aload_n (i := 1) dX7_layBack_40 rfl) (Snd.cons (snd_iload_n (i := 2) dX7_layBack_41 rfl) Snd.nil))))
theorem bX7_layBack_47_54 {l : Launch} {E : XE} : Snd l E mX7_layBack 47 54 (xs [x_aload 0, x_get 8 2, x_iload 3, x_aload 1, x_iload 2]) := Snd.cons (snd_aload_n (i := 0) dX7_layBack_47 rfl) (Snd.cons (snd_get (ci := 8) (k := 2) dX7_layBack_48 rfl inX7 (by decide) tw_916) (Snd.cons (snd_iload_n (i := 3) dX7_layBack_51 rfl) (Snd.cons (snd_aload_n (i := 1) dX7_layBack_52 rfl) (Snd.cons (snd_iload_n (i := 2) dX7_layBack_53 rfl) Snd.nil))))
theorem bX7_layBack_62_30 {l : Launch} {E : XE} : Snd l E mX7_layBack 62 30 (xs [x_id]) := Snd.cons (snd_goto (tgt := 30) dX7_layBack_62 (by decide)) Snd.nil
theorem bX7_layBack_10_17 {l : Launch} {E : XE} : Snd l E mX7_layBack 10 17 (xs [x_aload 0, x_get 8 0, x_iload 3, x_aload 1, x_iload 2]) := Snd.cons (snd_aload_n (i := 0) dX7_layBack_10 rfl) (Snd.cons (snd_get (ci := 8) (k := 0) dX7_layBack_11 rfl inX7 (by decide) tw_914) (Snd.cons (snd_iload_n (i := 3) dX7_layBack_14 rfl) (Snd.cons (snd_aload_n (i := 1) dX7_layBack_15 rfl) (Snd.cons (snd_iload_n (i := 2) dX7_layBack_16 rfl) Snd.nil))))
theorem bX7_layBack_25_4 {l : Launch} {E : XE} : Snd l E mX7_layBack 25 4 (xs [x_id]) := Snd.cons (snd_goto (tgt := 4) dX7_layBack_25 (by decide)) Snd.nil
set_option maxHeartbeats 4000000 in
set_option maxRecDepth 100000 in
theorem m_X7_layBack_n {l : Launch} {E : XE} (S : SaleN) (X : ModN) (T : SaleN)  : MetE l E mX7_layBack (0) 0 0 [.ref 0, .ref 19] (modW 0 S X none ++ row48 19 ((rowS T))) (fun r w' => r = none ∧ w' = modW 0 T ((X.rf, X.wo, X.ta, X.ow, 1, X.sh, X.lt, X.ty, X.pl, X.nu, X.od, X.tt, X.oo, X.on, X.wn, X.pd, X.li, X.rr, X.rn, X.dr) : ModN) none ++ row48 19 ((rowS T))) := by
  refine MetE.of (by decide +kernel) (Nat.le_of_ble_eq_true rfl) ?_
  refine ev_eq (lv' := [(0, .ref 0), (1, .ref 19)]) (st' := []) (w' := modW 0 S X none ++ row48 19 ((rowS T))) rfl rfl rfl ?_
  refine ev_b bX7_layBack_0_4 (lv' := [(3, .int (nI (0))), (2, .int (nI (0))), (0, .ref 0), (1, .ref 19)]) (st' := []) (w2 := modW 0 S X none ++ row48 19 ((rowS T))) rfl ?_
  have L4 : ∀ (j_ k : Nat), k + j_ = 6 → ∀ (g : Nat → Nat), (∀ j, j < k → g j = T.rs j) → Ev l E mX7_layBack (0) 0 0 (modW 0 S X none ++ row48 19 ((rowS T))) (fun r w' => r = none ∧ w' = modW 0 T ((X.rf, X.wo, X.ta, X.ow, 1, X.sh, X.lt, X.ty, X.pl, X.nu, X.od, X.tt, X.oo, X.on, X.wn, X.pd, X.li, X.rr, X.rn, X.dr) : ModN) none ++ row48 19 ((rowS T))) 0 0 4 [(3, .int (nI (k))), (2, .int (nI (k))), (0, .ref 0), (1, .ref 19)] [] (modW 0 ((S.bd, S.st, S.pr, S.ow, S.kd, S.fg, g, S.ca, S.ac) : SaleN) X none ++ row48 19 ((rowS T))) := by
    intro j_
    induction j_ with
    | zero =>
      intro k hk4 g hinv4
      replace hk4 : k = 6 := hk4
      subst hk4
      refine ev_b bX7_layBack_4_7 (lv' := [(3, .int (nI (6))), (2, .int (nI (6))), (0, .ref 0), (1, .ref 19)]) (st' := [.int (nI (6)), .int (nI (6))]) (w2 := modW 0 ((S.bd, S.st, S.pr, S.ow, S.kd, S.fg, g, S.ca, S.ac) : SaleN) X none ++ row48 19 ((rowS T))) rfl ?_
      refine ev_icmp_ge_n (tgt := 28) (by decide) (by decide) dX7_layBack_7 (by decide) (fun h7 => ?_) (fun h7 => (by exfalso; omega))
      refine ev_b bX7_layBack_28_30 (lv' := [(3, .int (nI (0))), (2, .int (nI (6))), (0, .ref 0), (1, .ref 19)]) (st' := []) (w2 := modW 0 ((S.bd, S.st, S.pr, S.ow, S.kd, S.fg, g, S.ca, S.ac) : SaleN) X none ++ row48 19 ((rowS T))) rfl ?_
      have L30 : ∀ (j_ k : Nat), k + j_ = 5 → ∀ (g1 g2 : Nat → Nat), ((∀ j, j < k → g1 j = T.kd j) ∧ ∀ j, j < k → g2 j = T.fg j) → Ev l E mX7_layBack (0) 0 0 (modW 0 S X none ++ row48 19 ((rowS T))) (fun r w' => r = none ∧ w' = modW 0 T ((X.rf, X.wo, X.ta, X.ow, 1, X.sh, X.lt, X.ty, X.pl, X.nu, X.od, X.tt, X.oo, X.on, X.wn, X.pd, X.li, X.rr, X.rn, X.dr) : ModN) none ++ row48 19 ((rowS T))) 0 0 30 [(3, .int (nI (k))), (2, .int (nI (6 + 2 * k))), (0, .ref 0), (1, .ref 19)] [] (modW 0 ((S.bd, S.st, S.pr, S.ow, g1, g2, g, S.ca, S.ac) : SaleN) X none ++ row48 19 ((rowS T))) := by
        intro j_
        induction j_ with
        | zero =>
          intro k hk30 g1 g2 hinv30
          replace hk30 : k = 5 := hk30
          subst hk30
          refine ev_b bX7_layBack_30_32 (lv' := [(3, .int (nI (5))), (2, .int (nI (6 + 2 * 5))), (0, .ref 0), (1, .ref 19)]) (st' := [.int (nI (5)), .int (nI (5))]) (w2 := modW 0 ((S.bd, S.st, S.pr, S.ow, g1, g2, g, S.ca, S.ac) : SaleN) X none ++ row48 19 ((rowS T))) rfl ?_
          refine ev_icmp_ge_n (tgt := 65) (by decide) (by decide) dX7_layBack_32 (by decide) (fun h32 => ?_) (fun h32 => (by exfalso; omega))
          refine ev_b bX7_layBack_65_67 (lv' := [(3, .int (nI (0))), (2, .int (nI (6 + 2 * 5))), (0, .ref 0), (1, .ref 19)]) (st' := []) (w2 := modW 0 ((S.bd, S.st, S.pr, S.ow, g1, g2, g, S.ca, S.ac) : SaleN) X none ++ row48 19 ((rowS T))) rfl ?_
          have L67 : ∀ (j_ k : Nat), k + j_ = 10 → ∀ (g3 g4 g5 : Nat → Nat), ((∀ j, j < k → g3 j = T.bd j) ∧ (∀ j, j < k → g4 j = T.st j) ∧ ∀ j, j < k → g5 j = T.pr j) → Ev l E mX7_layBack (0) 0 0 (modW 0 S X none ++ row48 19 ((rowS T))) (fun r w' => r = none ∧ w' = modW 0 T ((X.rf, X.wo, X.ta, X.ow, 1, X.sh, X.lt, X.ty, X.pl, X.nu, X.od, X.tt, X.oo, X.on, X.wn, X.pd, X.li, X.rr, X.rn, X.dr) : ModN) none ++ row48 19 ((rowS T))) 0 0 67 [(3, .int (nI (k))), (2, .int (nI (16 + 3 * k))), (0, .ref 0), (1, .ref 19)] [] (modW 0 ((g3, g4, g5, S.ow, g1, g2, g, S.ca, S.ac) : SaleN) X none ++ row48 19 ((rowS T))) := by
            intro j_
            induction j_ with
            | zero =>
              intro k hk67 g3 g4 g5 hinv67
              replace hk67 : k = 10 := hk67
              subst hk67
              refine ev_b bX7_layBack_67_70 (lv' := [(3, .int (nI (10))), (2, .int (nI (16 + 3 * 10))), (0, .ref 0), (1, .ref 19)]) (st' := [.int (nI (10)), .int (nI (10))]) (w2 := modW 0 ((g3, g4, g5, S.ow, g1, g2, g, S.ca, S.ac) : SaleN) X none ++ row48 19 ((rowS T))) rfl ?_
              refine ev_icmp_ge_n (tgt := 115) (by decide) (by decide) dX7_layBack_70 (by decide) (fun h70 => ?_) (fun h70 => (by exfalso; omega))
              refine ev_b bX7_layBack_115_118 (lv' := [(3, .int (nI (10))), (2, .int (nI (16 + 3 * 10))), (0, .ref 0), (1, .ref 19)]) (st' := [.int (nI (16 + 3 * 10)), .ref 19, .ref 0]) (w2 := modW 0 ((g3, g4, g5, S.ow, g1, g2, g, S.ca, S.ac) : SaleN) X none ++ row48 19 ((rowS T))) rfl ?_
              refine ev_iald_n (f := (rowS T)) dX7_layBack_118 rfl (by omega) (by decide) ?_
              refine ev_top (y := (nI (T.ca))) (congrArg nI (show ((rowS T)) (16 + 3 * 10) = T.ca from by exact rowS_ca)) ?_
              refine ev_b bX7_layBack_119_126 (lv' := [(3, .int (nI (10))), (2, .int (nI (16 + 3 * 10))), (0, .ref 0), (1, .ref 19)]) (st' := [.int (nI (1)), .int (nI (16 + 3 * 10)), .ref 19, .ref 0]) (w2 := modW 0 ((g3, g4, g5, S.ow, g1, g2, g, T.ca, S.ac) : SaleN) X none ++ row48 19 ((rowS T))) rfl ?_
              refine ev_iadd_n dX7_layBack_126 ?_
              refine ev_iald_n (f := (rowS T)) dX7_layBack_127 rfl (by omega) (by decide) ?_
              refine ev_top (y := (nI (T.ac))) (congrArg nI (show ((rowS T)) ((16 + 3 * 10) + 1) = T.ac from by exact rowS_ac)) ?_
              refine ev_b bX7_layBack_128_133 (lv' := [(3, .int (nI (10))), (2, .int (nI (16 + 3 * 10))), (0, .ref 0), (1, .ref 19)]) (st' := [.int (nI (1)), .ref 0]) (w2 := modW 0 ((g3, g4, g5, S.ow, g1, g2, g, T.ca, T.ac) : SaleN) X none ++ row48 19 ((rowS T))) rfl ?_
              refine snd_put (ci := 8) (k := 12) (a := 0) dX7_layBack_133 rfl inX7 tyX7_ok nmX7 (by decide) tw_926 rfl rfl (Nat.le_of_ble_eq_true rfl) (fun _ => rfl) (fun _ => rfl) ?_
              refine ev_eq (w' := modW 0 ((g3, g4, g5, S.ow, g1, g2, g, T.ca, T.ac) : SaleN) ((X.rf, X.wo, X.ta, X.ow, 1, X.sh, X.lt, X.ty, X.pl, X.nu, X.od, X.tt, X.oo, X.on, X.wn, X.pd, X.li, X.rr, X.rn, X.dr) : ModN) none ++ row48 19 ((rowS T))) rfl rfl rfl ?_
              refine ev_arr (b := 1) (g := aI T.rs) rfl (fun j hj => congrArg nI (hinv4 j hj)) ?_
              refine ev_arr (b := 2) (g := aI T.kd) rfl (fun j hj => congrArg nI (hinv30.1 j hj)) ?_
              refine ev_arr (b := 3) (g := aI T.fg) rfl (fun j hj => congrArg nI (hinv30.2 j hj)) ?_
              refine ev_arr (b := 4) (g := aI T.bd) rfl (fun j hj => congrArg nI (hinv67.1 j hj)) ?_
              refine ev_arr (b := 5) (g := aI T.st) rfl (fun j hj => congrArg nI (hinv67.2.1 j hj)) ?_
              refine ev_arr (b := 6) (g := aI T.pr) rfl (fun j hj => congrArg nI (hinv67.2.2 j hj)) ?_
              refine ev_eq (w' := modW 0 T ((X.rf, X.wo, X.ta, X.ow, 1, X.sh, X.lt, X.ty, X.pl, X.nu, X.od, X.tt, X.oo, X.on, X.wn, X.pd, X.li, X.rr, X.rn, X.dr) : ModN) none ++ row48 19 ((rowS T))) rfl rfl rfl ?_
              exact ev_vret dX7_layBack_136 rfl (Nat.le_of_ble_eq_true rfl) (Nat.le_refl _) (Nat.le_refl _) ⟨rfl, rfl⟩
            | succ j_ ih67 =>
              intro k hk67 g3 g4 g5 hinv67
              have hlt67 : k < 10 := by omega
              refine ev_b bX7_layBack_67_70 (lv' := [(3, .int (nI (k))), (2, .int (nI (16 + 3 * k))), (0, .ref 0), (1, .ref 19)]) (st' := [.int (nI (10)), .int (nI (k))]) (w2 := modW 0 ((g3, g4, g5, S.ow, g1, g2, g, S.ca, S.ac) : SaleN) X none ++ row48 19 ((rowS T))) rfl ?_
              refine ev_icmp_ge_n (tgt := 115) (by omega) (by decide) dX7_layBack_70 (by decide) (fun h70 => (by exfalso; omega)) (fun h70 => ?_)
              refine ev_b bX7_layBack_73_80 (lv' := [(3, .int (nI (k))), (2, .int (nI (16 + 3 * k))), (0, .ref 0), (1, .ref 19)]) (st' := [.int (nI (16 + 3 * k)), .ref 19, .int (nI (k)), .ref 4]) (w2 := modW 0 ((g3, g4, g5, S.ow, g1, g2, g, S.ca, S.ac) : SaleN) X none ++ row48 19 ((rowS T))) rfl ?_
              refine ev_iinc_n (x := 16 + 3 * k) (v := 1) dX7_layBack_80 rfl (by decide) ?_
              refine ev_eq (lv' := [(2, .int (nI ((16 + 3 * k) + 1))), (3, .int (nI (k))), (0, .ref 0), (1, .ref 19)]) rfl rfl rfl ?_
              refine ev_iald_n (f := (rowS T)) dX7_layBack_83 rfl (by omega) (by decide) ?_
              refine ev_top (y := (nI (T.bd k))) (congrArg nI (show ((rowS T)) (16 + 3 * k) = T.bd k from by exact rowS_bd hlt67)) ?_
              refine ev_iast_n (f := g3) dX7_layBack_84 rfl (by omega) (by decide) ?_
              refine ev_eq (w' := modW 0 ((up g3 k (T.bd k), g4, g5, S.ow, g1, g2, g, S.ca, S.ac) : SaleN) X none ++ row48 19 ((rowS T))) rfl rfl rfl ?_
              refine ev_b bX7_layBack_85_92 (lv' := [(2, .int (nI ((16 + 3 * k) + 1))), (3, .int (nI (k))), (0, .ref 0), (1, .ref 19)]) (st' := [.int (nI ((16 + 3 * k) + 1)), .ref 19, .int (nI (k)), .ref 5]) (w2 := modW 0 ((up g3 k (T.bd k), g4, g5, S.ow, g1, g2, g, S.ca, S.ac) : SaleN) X none ++ row48 19 ((rowS T))) rfl ?_
              refine ev_iinc_n (x := (16 + 3 * k) + 1) (v := 1) dX7_layBack_92 rfl (by decide) ?_
              refine ev_eq (lv' := [(2, .int (nI (((16 + 3 * k) + 1) + 1))), (3, .int (nI (k))), (0, .ref 0), (1, .ref 19)]) rfl rfl rfl ?_
              refine ev_iald_n (f := (rowS T)) dX7_layBack_95 rfl (by omega) (by decide) ?_
              refine ev_top (y := (nI (T.st k))) (congrArg nI (show ((rowS T)) ((16 + 3 * k) + 1) = T.st k from by exact rowS_st hlt67)) ?_
              refine ev_iast_n (f := g4) dX7_layBack_96 rfl (by omega) (by decide) ?_
              refine ev_eq (w' := modW 0 ((up g3 k (T.bd k), up g4 k (T.st k), g5, S.ow, g1, g2, g, S.ca, S.ac) : SaleN) X none ++ row48 19 ((rowS T))) rfl rfl rfl ?_
              refine ev_b bX7_layBack_97_104 (lv' := [(2, .int (nI (((16 + 3 * k) + 1) + 1))), (3, .int (nI (k))), (0, .ref 0), (1, .ref 19)]) (st' := [.int (nI (((16 + 3 * k) + 1) + 1)), .ref 19, .int (nI (k)), .ref 6]) (w2 := modW 0 ((up g3 k (T.bd k), up g4 k (T.st k), g5, S.ow, g1, g2, g, S.ca, S.ac) : SaleN) X none ++ row48 19 ((rowS T))) rfl ?_
              refine ev_iinc_n (x := ((16 + 3 * k) + 1) + 1) (v := 1) dX7_layBack_104 rfl (by decide) ?_
              refine ev_eq (lv' := [(2, .int (nI ((((16 + 3 * k) + 1) + 1) + 1))), (3, .int (nI (k))), (0, .ref 0), (1, .ref 19)]) rfl rfl rfl ?_
              refine ev_iald_n (f := (rowS T)) dX7_layBack_107 rfl (by omega) (by decide) ?_
              refine ev_top (y := (nI (T.pr k))) (congrArg nI (show ((rowS T)) (((16 + 3 * k) + 1) + 1) = T.pr k from by exact rowS_pr hlt67)) ?_
              refine ev_iast_n (f := g5) dX7_layBack_108 rfl (by omega) (by decide) ?_
              refine ev_eq (w' := modW 0 ((up g3 k (T.bd k), up g4 k (T.st k), up g5 k (T.pr k), S.ow, g1, g2, g, S.ca, S.ac) : SaleN) X none ++ row48 19 ((rowS T))) rfl rfl rfl ?_
              refine ev_iinc_n (x := k) (v := 1) dX7_layBack_109 rfl (by decide) ?_
              refine ev_eq (lv' := [(3, .int (nI (k + 1))), (2, .int (nI ((((16 + 3 * k) + 1) + 1) + 1))), (0, .ref 0), (1, .ref 19)]) rfl rfl rfl ?_
              refine ev_b bX7_layBack_112_67 (lv' := [(3, .int (nI (k + 1))), (2, .int (nI ((((16 + 3 * k) + 1) + 1) + 1))), (0, .ref 0), (1, .ref 19)]) (st' := []) (w2 := modW 0 ((up g3 k (T.bd k), up g4 k (T.st k), up g5 k (T.pr k), S.ow, g1, g2, g, S.ca, S.ac) : SaleN) X none ++ row48 19 ((rowS T))) rfl ?_
              rw [show nI (k + 1) = nI ((k + 1)) from congrArg nI (by omega)]
              rw [show nI ((((16 + 3 * k) + 1) + 1) + 1) = nI (16 + 3 * (k + 1)) from congrArg nI (by omega)]
              exact ih67 (k + 1) (by omega) _ _ _ ⟨row_up hinv67.1 rfl, row_up hinv67.2.1 rfl, row_up hinv67.2.2 rfl⟩
          exact L67 10 0 (by omega) S.bd S.st S.pr ⟨(fun j hj => absurd hj (Nat.not_lt_zero j)), (fun j hj => absurd hj (Nat.not_lt_zero j)), (fun j hj => absurd hj (Nat.not_lt_zero j))⟩
        | succ j_ ih30 =>
          intro k hk30 g1 g2 hinv30
          have hlt30 : k < 5 := by omega
          refine ev_b bX7_layBack_30_32 (lv' := [(3, .int (nI (k))), (2, .int (nI (6 + 2 * k))), (0, .ref 0), (1, .ref 19)]) (st' := [.int (nI (5)), .int (nI (k))]) (w2 := modW 0 ((S.bd, S.st, S.pr, S.ow, g1, g2, g, S.ca, S.ac) : SaleN) X none ++ row48 19 ((rowS T))) rfl ?_
          refine ev_icmp_ge_n (tgt := 65) (by omega) (by decide) dX7_layBack_32 (by decide) (fun h32 => (by exfalso; omega)) (fun h32 => ?_)
          refine ev_b bX7_layBack_35_42 (lv' := [(3, .int (nI (k))), (2, .int (nI (6 + 2 * k))), (0, .ref 0), (1, .ref 19)]) (st' := [.int (nI (6 + 2 * k)), .ref 19, .int (nI (k)), .ref 2]) (w2 := modW 0 ((S.bd, S.st, S.pr, S.ow, g1, g2, g, S.ca, S.ac) : SaleN) X none ++ row48 19 ((rowS T))) rfl ?_
          refine ev_iinc_n (x := 6 + 2 * k) (v := 1) dX7_layBack_42 rfl (by decide) ?_
          refine ev_eq (lv' := [(2, .int (nI ((6 + 2 * k) + 1))), (3, .int (nI (k))), (0, .ref 0), (1, .ref 19)]) rfl rfl rfl ?_
          refine ev_iald_n (f := (rowS T)) dX7_layBack_45 rfl (by omega) (by decide) ?_
          refine ev_top (y := (nI (T.kd k))) (congrArg nI (show ((rowS T)) (6 + 2 * k) = T.kd k from by exact rowS_kd hlt30)) ?_
          refine ev_iast_n (f := g1) dX7_layBack_46 rfl (by omega) (by decide) ?_
          refine ev_eq (w' := modW 0 ((S.bd, S.st, S.pr, S.ow, up g1 k (T.kd k), g2, g, S.ca, S.ac) : SaleN) X none ++ row48 19 ((rowS T))) rfl rfl rfl ?_
          refine ev_b bX7_layBack_47_54 (lv' := [(2, .int (nI ((6 + 2 * k) + 1))), (3, .int (nI (k))), (0, .ref 0), (1, .ref 19)]) (st' := [.int (nI ((6 + 2 * k) + 1)), .ref 19, .int (nI (k)), .ref 3]) (w2 := modW 0 ((S.bd, S.st, S.pr, S.ow, up g1 k (T.kd k), g2, g, S.ca, S.ac) : SaleN) X none ++ row48 19 ((rowS T))) rfl ?_
          refine ev_iinc_n (x := (6 + 2 * k) + 1) (v := 1) dX7_layBack_54 rfl (by decide) ?_
          refine ev_eq (lv' := [(2, .int (nI (((6 + 2 * k) + 1) + 1))), (3, .int (nI (k))), (0, .ref 0), (1, .ref 19)]) rfl rfl rfl ?_
          refine ev_iald_n (f := (rowS T)) dX7_layBack_57 rfl (by omega) (by decide) ?_
          refine ev_top (y := (nI (T.fg k))) (congrArg nI (show ((rowS T)) ((6 + 2 * k) + 1) = T.fg k from by exact rowS_fg hlt30)) ?_
          refine ev_iast_n (f := g2) dX7_layBack_58 rfl (by omega) (by decide) ?_
          refine ev_eq (w' := modW 0 ((S.bd, S.st, S.pr, S.ow, up g1 k (T.kd k), up g2 k (T.fg k), g, S.ca, S.ac) : SaleN) X none ++ row48 19 ((rowS T))) rfl rfl rfl ?_
          refine ev_iinc_n (x := k) (v := 1) dX7_layBack_59 rfl (by decide) ?_
          refine ev_eq (lv' := [(3, .int (nI (k + 1))), (2, .int (nI (((6 + 2 * k) + 1) + 1))), (0, .ref 0), (1, .ref 19)]) rfl rfl rfl ?_
          refine ev_b bX7_layBack_62_30 (lv' := [(3, .int (nI (k + 1))), (2, .int (nI (((6 + 2 * k) + 1) + 1))), (0, .ref 0), (1, .ref 19)]) (st' := []) (w2 := modW 0 ((S.bd, S.st, S.pr, S.ow, up g1 k (T.kd k), up g2 k (T.fg k), g, S.ca, S.ac) : SaleN) X none ++ row48 19 ((rowS T))) rfl ?_
          rw [show nI (k + 1) = nI ((k + 1)) from congrArg nI (by omega)]
          rw [show nI (((6 + 2 * k) + 1) + 1) = nI (6 + 2 * (k + 1)) from congrArg nI (by omega)]
          exact ih30 (k + 1) (by omega) _ _ ⟨row_up hinv30.1 rfl, row_up hinv30.2 rfl⟩
      exact L30 5 0 (by omega) S.kd S.fg ⟨(fun j hj => absurd hj (Nat.not_lt_zero j)), (fun j hj => absurd hj (Nat.not_lt_zero j))⟩
    | succ j_ ih4 =>
      intro k hk4 g hinv4
      have hlt4 : k < 6 := by omega
      refine ev_b bX7_layBack_4_7 (lv' := [(3, .int (nI (k))), (2, .int (nI (k))), (0, .ref 0), (1, .ref 19)]) (st' := [.int (nI (6)), .int (nI (k))]) (w2 := modW 0 ((S.bd, S.st, S.pr, S.ow, S.kd, S.fg, g, S.ca, S.ac) : SaleN) X none ++ row48 19 ((rowS T))) rfl ?_
      refine ev_icmp_ge_n (tgt := 28) (by omega) (by decide) dX7_layBack_7 (by decide) (fun h7 => (by exfalso; omega)) (fun h7 => ?_)
      refine ev_b bX7_layBack_10_17 (lv' := [(3, .int (nI (k))), (2, .int (nI (k))), (0, .ref 0), (1, .ref 19)]) (st' := [.int (nI (k)), .ref 19, .int (nI (k)), .ref 1]) (w2 := modW 0 ((S.bd, S.st, S.pr, S.ow, S.kd, S.fg, g, S.ca, S.ac) : SaleN) X none ++ row48 19 ((rowS T))) rfl ?_
      refine ev_iinc_n (x := k) (v := 1) dX7_layBack_17 rfl (by decide) ?_
      refine ev_eq (lv' := [(2, .int (nI (k + 1))), (3, .int (nI (k))), (0, .ref 0), (1, .ref 19)]) rfl rfl rfl ?_
      refine ev_iald_n (f := (rowS T)) dX7_layBack_20 rfl (by omega) (by decide) ?_
      refine ev_top (y := (nI (T.rs k))) (congrArg nI (show ((rowS T)) k = T.rs k from by exact rowS_rs hlt4)) ?_
      refine ev_iast_n (f := g) dX7_layBack_21 rfl (by omega) (by decide) ?_
      refine ev_eq (w' := modW 0 ((S.bd, S.st, S.pr, S.ow, S.kd, S.fg, up g k (T.rs k), S.ca, S.ac) : SaleN) X none ++ row48 19 ((rowS T))) rfl rfl rfl ?_
      refine ev_iinc_n (x := k) (v := 1) dX7_layBack_22 rfl (by decide) ?_
      refine ev_eq (lv' := [(3, .int (nI (k + 1))), (2, .int (nI (k + 1))), (0, .ref 0), (1, .ref 19)]) rfl rfl rfl ?_
      refine ev_b bX7_layBack_25_4 (lv' := [(3, .int (nI (k + 1))), (2, .int (nI (k + 1))), (0, .ref 0), (1, .ref 19)]) (st' := []) (w2 := modW 0 ((S.bd, S.st, S.pr, S.ow, S.kd, S.fg, up g k (T.rs k), S.ca, S.ac) : SaleN) X none ++ row48 19 ((rowS T))) rfl ?_
      rw [show nI (k + 1) = nI ((k + 1)) from congrArg nI (by omega)]
      rw [show nI (k + 1) = nI ((k + 1)) from congrArg nI (by omega)]
      exact ih4 (k + 1) (by omega) _ (row_up hinv4 rfl)
  exact L4 6 0 (by omega) S.rs (fun j hj => absurd hj (Nat.not_lt_zero j))
set_option maxHeartbeats 4000000 in
set_option maxRecDepth 100000 in
theorem m_X7_layBack_s {l : Launch} {E : XE} (S : SaleN) (X : ModN) (kf : Nat → Nat) (T : SaleN)  : MetE l E mX7_layBack (0) 0 0 [.ref 0, .ref 20] (modW 0 S X (some kf) ++ row48 20 ((rowS T))) (fun r w' => r = none ∧ w' = modW 0 T ((X.rf, X.wo, X.ta, X.ow, 1, X.sh, X.lt, X.ty, X.pl, X.nu, X.od, X.tt, X.oo, X.on, X.wn, X.pd, X.li, X.rr, X.rn, X.dr) : ModN) (some kf) ++ row48 20 ((rowS T))) := by
  refine MetE.of (by decide +kernel) (Nat.le_of_ble_eq_true rfl) ?_
  refine ev_eq (lv' := [(0, .ref 0), (1, .ref 20)]) (st' := []) (w' := modW 0 S X (some kf) ++ row48 20 ((rowS T))) rfl rfl rfl ?_
  refine ev_b bX7_layBack_0_4 (lv' := [(3, .int (nI (0))), (2, .int (nI (0))), (0, .ref 0), (1, .ref 20)]) (st' := []) (w2 := modW 0 S X (some kf) ++ row48 20 ((rowS T))) rfl ?_
  have L4 : ∀ (j_ k : Nat), k + j_ = 6 → ∀ (g : Nat → Nat), (∀ j, j < k → g j = T.rs j) → Ev l E mX7_layBack (0) 0 0 (modW 0 S X (some kf) ++ row48 20 ((rowS T))) (fun r w' => r = none ∧ w' = modW 0 T ((X.rf, X.wo, X.ta, X.ow, 1, X.sh, X.lt, X.ty, X.pl, X.nu, X.od, X.tt, X.oo, X.on, X.wn, X.pd, X.li, X.rr, X.rn, X.dr) : ModN) (some kf) ++ row48 20 ((rowS T))) 0 0 4 [(3, .int (nI (k))), (2, .int (nI (k))), (0, .ref 0), (1, .ref 20)] [] (modW 0 ((S.bd, S.st, S.pr, S.ow, S.kd, S.fg, g, S.ca, S.ac) : SaleN) X (some kf) ++ row48 20 ((rowS T))) := by
    intro j_
    induction j_ with
    | zero =>
      intro k hk4 g hinv4
      replace hk4 : k = 6 := hk4
      subst hk4
      refine ev_b bX7_layBack_4_7 (lv' := [(3, .int (nI (6))), (2, .int (nI (6))), (0, .ref 0), (1, .ref 20)]) (st' := [.int (nI (6)), .int (nI (6))]) (w2 := modW 0 ((S.bd, S.st, S.pr, S.ow, S.kd, S.fg, g, S.ca, S.ac) : SaleN) X (some kf) ++ row48 20 ((rowS T))) rfl ?_
      refine ev_icmp_ge_n (tgt := 28) (by decide) (by decide) dX7_layBack_7 (by decide) (fun h7 => ?_) (fun h7 => (by exfalso; omega))
      refine ev_b bX7_layBack_28_30 (lv' := [(3, .int (nI (0))), (2, .int (nI (6))), (0, .ref 0), (1, .ref 20)]) (st' := []) (w2 := modW 0 ((S.bd, S.st, S.pr, S.ow, S.kd, S.fg, g, S.ca, S.ac) : SaleN) X (some kf) ++ row48 20 ((rowS T))) rfl ?_
      have L30 : ∀ (j_ k : Nat), k + j_ = 5 → ∀ (g1 g2 : Nat → Nat), ((∀ j, j < k → g1 j = T.kd j) ∧ ∀ j, j < k → g2 j = T.fg j) → Ev l E mX7_layBack (0) 0 0 (modW 0 S X (some kf) ++ row48 20 ((rowS T))) (fun r w' => r = none ∧ w' = modW 0 T ((X.rf, X.wo, X.ta, X.ow, 1, X.sh, X.lt, X.ty, X.pl, X.nu, X.od, X.tt, X.oo, X.on, X.wn, X.pd, X.li, X.rr, X.rn, X.dr) : ModN) (some kf) ++ row48 20 ((rowS T))) 0 0 30 [(3, .int (nI (k))), (2, .int (nI (6 + 2 * k))), (0, .ref 0), (1, .ref 20)] [] (modW 0 ((S.bd, S.st, S.pr, S.ow, g1, g2, g, S.ca, S.ac) : SaleN) X (some kf) ++ row48 20 ((rowS T))) := by
        intro j_
        induction j_ with
        | zero =>
          intro k hk30 g1 g2 hinv30
          replace hk30 : k = 5 := hk30
          subst hk30
          refine ev_b bX7_layBack_30_32 (lv' := [(3, .int (nI (5))), (2, .int (nI (6 + 2 * 5))), (0, .ref 0), (1, .ref 20)]) (st' := [.int (nI (5)), .int (nI (5))]) (w2 := modW 0 ((S.bd, S.st, S.pr, S.ow, g1, g2, g, S.ca, S.ac) : SaleN) X (some kf) ++ row48 20 ((rowS T))) rfl ?_
          refine ev_icmp_ge_n (tgt := 65) (by decide) (by decide) dX7_layBack_32 (by decide) (fun h32 => ?_) (fun h32 => (by exfalso; omega))
          refine ev_b bX7_layBack_65_67 (lv' := [(3, .int (nI (0))), (2, .int (nI (6 + 2 * 5))), (0, .ref 0), (1, .ref 20)]) (st' := []) (w2 := modW 0 ((S.bd, S.st, S.pr, S.ow, g1, g2, g, S.ca, S.ac) : SaleN) X (some kf) ++ row48 20 ((rowS T))) rfl ?_
          have L67 : ∀ (j_ k : Nat), k + j_ = 10 → ∀ (g3 g4 g5 : Nat → Nat), ((∀ j, j < k → g3 j = T.bd j) ∧ (∀ j, j < k → g4 j = T.st j) ∧ ∀ j, j < k → g5 j = T.pr j) → Ev l E mX7_layBack (0) 0 0 (modW 0 S X (some kf) ++ row48 20 ((rowS T))) (fun r w' => r = none ∧ w' = modW 0 T ((X.rf, X.wo, X.ta, X.ow, 1, X.sh, X.lt, X.ty, X.pl, X.nu, X.od, X.tt, X.oo, X.on, X.wn, X.pd, X.li, X.rr, X.rn, X.dr) : ModN) (some kf) ++ row48 20 ((rowS T))) 0 0 67 [(3, .int (nI (k))), (2, .int (nI (16 + 3 * k))), (0, .ref 0), (1, .ref 20)] [] (modW 0 ((g3, g4, g5, S.ow, g1, g2, g, S.ca, S.ac) : SaleN) X (some kf) ++ row48 20 ((rowS T))) := by
            intro j_
            induction j_ with
            | zero =>
              intro k hk67 g3 g4 g5 hinv67
              replace hk67 : k = 10 := hk67
              subst hk67
              refine ev_b bX7_layBack_67_70 (lv' := [(3, .int (nI (10))), (2, .int (nI (16 + 3 * 10))), (0, .ref 0), (1, .ref 20)]) (st' := [.int (nI (10)), .int (nI (10))]) (w2 := modW 0 ((g3, g4, g5, S.ow, g1, g2, g, S.ca, S.ac) : SaleN) X (some kf) ++ row48 20 ((rowS T))) rfl ?_
              refine ev_icmp_ge_n (tgt := 115) (by decide) (by decide) dX7_layBack_70 (by decide) (fun h70 => ?_) (fun h70 => (by exfalso; omega))
              refine ev_b bX7_layBack_115_118 (lv' := [(3, .int (nI (10))), (2, .int (nI (16 + 3 * 10))), (0, .ref 0), (1, .ref 20)]) (st' := [.int (nI (16 + 3 * 10)), .ref 20, .ref 0]) (w2 := modW 0 ((g3, g4, g5, S.ow, g1, g2, g, S.ca, S.ac) : SaleN) X (some kf) ++ row48 20 ((rowS T))) rfl ?_
              refine ev_iald_n (f := (rowS T)) dX7_layBack_118 rfl (by omega) (by decide) ?_
              refine ev_top (y := (nI (T.ca))) (congrArg nI (show ((rowS T)) (16 + 3 * 10) = T.ca from by exact rowS_ca)) ?_
              refine ev_b bX7_layBack_119_126 (lv' := [(3, .int (nI (10))), (2, .int (nI (16 + 3 * 10))), (0, .ref 0), (1, .ref 20)]) (st' := [.int (nI (1)), .int (nI (16 + 3 * 10)), .ref 20, .ref 0]) (w2 := modW 0 ((g3, g4, g5, S.ow, g1, g2, g, T.ca, S.ac) : SaleN) X (some kf) ++ row48 20 ((rowS T))) rfl ?_
              refine ev_iadd_n dX7_layBack_126 ?_
              refine ev_iald_n (f := (rowS T)) dX7_layBack_127 rfl (by omega) (by decide) ?_
              refine ev_top (y := (nI (T.ac))) (congrArg nI (show ((rowS T)) ((16 + 3 * 10) + 1) = T.ac from by exact rowS_ac)) ?_
              refine ev_b bX7_layBack_128_133 (lv' := [(3, .int (nI (10))), (2, .int (nI (16 + 3 * 10))), (0, .ref 0), (1, .ref 20)]) (st' := [.int (nI (1)), .ref 0]) (w2 := modW 0 ((g3, g4, g5, S.ow, g1, g2, g, T.ca, T.ac) : SaleN) X (some kf) ++ row48 20 ((rowS T))) rfl ?_
              refine snd_put (ci := 8) (k := 12) (a := 0) dX7_layBack_133 rfl inX7 tyX7_ok nmX7 (by decide) tw_926 rfl rfl (Nat.le_of_ble_eq_true rfl) (fun _ => rfl) (fun _ => rfl) ?_
              refine ev_eq (w' := modW 0 ((g3, g4, g5, S.ow, g1, g2, g, T.ca, T.ac) : SaleN) ((X.rf, X.wo, X.ta, X.ow, 1, X.sh, X.lt, X.ty, X.pl, X.nu, X.od, X.tt, X.oo, X.on, X.wn, X.pd, X.li, X.rr, X.rn, X.dr) : ModN) (some kf) ++ row48 20 ((rowS T))) rfl rfl rfl ?_
              refine ev_arr (b := 1) (g := aI T.rs) rfl (fun j hj => congrArg nI (hinv4 j hj)) ?_
              refine ev_arr (b := 2) (g := aI T.kd) rfl (fun j hj => congrArg nI (hinv30.1 j hj)) ?_
              refine ev_arr (b := 3) (g := aI T.fg) rfl (fun j hj => congrArg nI (hinv30.2 j hj)) ?_
              refine ev_arr (b := 4) (g := aI T.bd) rfl (fun j hj => congrArg nI (hinv67.1 j hj)) ?_
              refine ev_arr (b := 5) (g := aI T.st) rfl (fun j hj => congrArg nI (hinv67.2.1 j hj)) ?_
              refine ev_arr (b := 6) (g := aI T.pr) rfl (fun j hj => congrArg nI (hinv67.2.2 j hj)) ?_
              refine ev_eq (w' := modW 0 T ((X.rf, X.wo, X.ta, X.ow, 1, X.sh, X.lt, X.ty, X.pl, X.nu, X.od, X.tt, X.oo, X.on, X.wn, X.pd, X.li, X.rr, X.rn, X.dr) : ModN) (some kf) ++ row48 20 ((rowS T))) rfl rfl rfl ?_
              exact ev_vret dX7_layBack_136 rfl (Nat.le_of_ble_eq_true rfl) (Nat.le_refl _) (Nat.le_refl _) ⟨rfl, rfl⟩
            | succ j_ ih67 =>
              intro k hk67 g3 g4 g5 hinv67
              have hlt67 : k < 10 := by omega
              refine ev_b bX7_layBack_67_70 (lv' := [(3, .int (nI (k))), (2, .int (nI (16 + 3 * k))), (0, .ref 0), (1, .ref 20)]) (st' := [.int (nI (10)), .int (nI (k))]) (w2 := modW 0 ((g3, g4, g5, S.ow, g1, g2, g, S.ca, S.ac) : SaleN) X (some kf) ++ row48 20 ((rowS T))) rfl ?_
              refine ev_icmp_ge_n (tgt := 115) (by omega) (by decide) dX7_layBack_70 (by decide) (fun h70 => (by exfalso; omega)) (fun h70 => ?_)
              refine ev_b bX7_layBack_73_80 (lv' := [(3, .int (nI (k))), (2, .int (nI (16 + 3 * k))), (0, .ref 0), (1, .ref 20)]) (st' := [.int (nI (16 + 3 * k)), .ref 20, .int (nI (k)), .ref 4]) (w2 := modW 0 ((g3, g4, g5, S.ow, g1, g2, g, S.ca, S.ac) : SaleN) X (some kf) ++ row48 20 ((rowS T))) rfl ?_
              refine ev_iinc_n (x := 16 + 3 * k) (v := 1) dX7_layBack_80 rfl (by decide) ?_
              refine ev_eq (lv' := [(2, .int (nI ((16 + 3 * k) + 1))), (3, .int (nI (k))), (0, .ref 0), (1, .ref 20)]) rfl rfl rfl ?_
              refine ev_iald_n (f := (rowS T)) dX7_layBack_83 rfl (by omega) (by decide) ?_
              refine ev_top (y := (nI (T.bd k))) (congrArg nI (show ((rowS T)) (16 + 3 * k) = T.bd k from by exact rowS_bd hlt67)) ?_
              refine ev_iast_n (f := g3) dX7_layBack_84 rfl (by omega) (by decide) ?_
              refine ev_eq (w' := modW 0 ((up g3 k (T.bd k), g4, g5, S.ow, g1, g2, g, S.ca, S.ac) : SaleN) X (some kf) ++ row48 20 ((rowS T))) rfl rfl rfl ?_
              refine ev_b bX7_layBack_85_92 (lv' := [(2, .int (nI ((16 + 3 * k) + 1))), (3, .int (nI (k))), (0, .ref 0), (1, .ref 20)]) (st' := [.int (nI ((16 + 3 * k) + 1)), .ref 20, .int (nI (k)), .ref 5]) (w2 := modW 0 ((up g3 k (T.bd k), g4, g5, S.ow, g1, g2, g, S.ca, S.ac) : SaleN) X (some kf) ++ row48 20 ((rowS T))) rfl ?_
              refine ev_iinc_n (x := (16 + 3 * k) + 1) (v := 1) dX7_layBack_92 rfl (by decide) ?_
              refine ev_eq (lv' := [(2, .int (nI (((16 + 3 * k) + 1) + 1))), (3, .int (nI (k))), (0, .ref 0), (1, .ref 20)]) rfl rfl rfl ?_
              refine ev_iald_n (f := (rowS T)) dX7_layBack_95 rfl (by omega) (by decide) ?_
              refine ev_top (y := (nI (T.st k))) (congrArg nI (show ((rowS T)) ((16 + 3 * k) + 1) = T.st k from by exact rowS_st hlt67)) ?_
              refine ev_iast_n (f := g4) dX7_layBack_96 rfl (by omega) (by decide) ?_
              refine ev_eq (w' := modW 0 ((up g3 k (T.bd k), up g4 k (T.st k), g5, S.ow, g1, g2, g, S.ca, S.ac) : SaleN) X (some kf) ++ row48 20 ((rowS T))) rfl rfl rfl ?_
              refine ev_b bX7_layBack_97_104 (lv' := [(2, .int (nI (((16 + 3 * k) + 1) + 1))), (3, .int (nI (k))), (0, .ref 0), (1, .ref 20)]) (st' := [.int (nI (((16 + 3 * k) + 1) + 1)), .ref 20, .int (nI (k)), .ref 6]) (w2 := modW 0 ((up g3 k (T.bd k), up g4 k (T.st k), g5, S.ow, g1, g2, g, S.ca, S.ac) : SaleN) X (some kf) ++ row48 20 ((rowS T))) rfl ?_
              refine ev_iinc_n (x := ((16 + 3 * k) + 1) + 1) (v := 1) dX7_layBack_104 rfl (by decide) ?_
              refine ev_eq (lv' := [(2, .int (nI ((((16 + 3 * k) + 1) + 1) + 1))), (3, .int (nI (k))), (0, .ref 0), (1, .ref 20)]) rfl rfl rfl ?_
              refine ev_iald_n (f := (rowS T)) dX7_layBack_107 rfl (by omega) (by decide) ?_
              refine ev_top (y := (nI (T.pr k))) (congrArg nI (show ((rowS T)) (((16 + 3 * k) + 1) + 1) = T.pr k from by exact rowS_pr hlt67)) ?_
              refine ev_iast_n (f := g5) dX7_layBack_108 rfl (by omega) (by decide) ?_
              refine ev_eq (w' := modW 0 ((up g3 k (T.bd k), up g4 k (T.st k), up g5 k (T.pr k), S.ow, g1, g2, g, S.ca, S.ac) : SaleN) X (some kf) ++ row48 20 ((rowS T))) rfl rfl rfl ?_
              refine ev_iinc_n (x := k) (v := 1) dX7_layBack_109 rfl (by decide) ?_
              refine ev_eq (lv' := [(3, .int (nI (k + 1))), (2, .int (nI ((((16 + 3 * k) + 1) + 1) + 1))), (0, .ref 0), (1, .ref 20)]) rfl rfl rfl ?_
              refine ev_b bX7_layBack_112_67 (lv' := [(3, .int (nI (k + 1))), (2, .int (nI ((((16 + 3 * k) + 1) + 1) + 1))), (0, .ref 0), (1, .ref 20)]) (st' := []) (w2 := modW 0 ((up g3 k (T.bd k), up g4 k (T.st k), up g5 k (T.pr k), S.ow, g1, g2, g, S.ca, S.ac) : SaleN) X (some kf) ++ row48 20 ((rowS T))) rfl ?_
              rw [show nI (k + 1) = nI ((k + 1)) from congrArg nI (by omega)]
              rw [show nI ((((16 + 3 * k) + 1) + 1) + 1) = nI (16 + 3 * (k + 1)) from congrArg nI (by omega)]
              exact ih67 (k + 1) (by omega) _ _ _ ⟨row_up hinv67.1 rfl, row_up hinv67.2.1 rfl, row_up hinv67.2.2 rfl⟩
          exact L67 10 0 (by omega) S.bd S.st S.pr ⟨(fun j hj => absurd hj (Nat.not_lt_zero j)), (fun j hj => absurd hj (Nat.not_lt_zero j)), (fun j hj => absurd hj (Nat.not_lt_zero j))⟩
        | succ j_ ih30 =>
          intro k hk30 g1 g2 hinv30
          have hlt30 : k < 5 := by omega
          refine ev_b bX7_layBack_30_32 (lv' := [(3, .int (nI (k))), (2, .int (nI (6 + 2 * k))), (0, .ref 0), (1, .ref 20)]) (st' := [.int (nI (5)), .int (nI (k))]) (w2 := modW 0 ((S.bd, S.st, S.pr, S.ow, g1, g2, g, S.ca, S.ac) : SaleN) X (some kf) ++ row48 20 ((rowS T))) rfl ?_
          refine ev_icmp_ge_n (tgt := 65) (by omega) (by decide) dX7_layBack_32 (by decide) (fun h32 => (by exfalso; omega)) (fun h32 => ?_)
          refine ev_b bX7_layBack_35_42 (lv' := [(3, .int (nI (k))), (2, .int (nI (6 + 2 * k))), (0, .ref 0), (1, .ref 20)]) (st' := [.int (nI (6 + 2 * k)), .ref 20, .int (nI (k)), .ref 2]) (w2 := modW 0 ((S.bd, S.st, S.pr, S.ow, g1, g2, g, S.ca, S.ac) : SaleN) X (some kf) ++ row48 20 ((rowS T))) rfl ?_
          refine ev_iinc_n (x := 6 + 2 * k) (v := 1) dX7_layBack_42 rfl (by decide) ?_
          refine ev_eq (lv' := [(2, .int (nI ((6 + 2 * k) + 1))), (3, .int (nI (k))), (0, .ref 0), (1, .ref 20)]) rfl rfl rfl ?_
          refine ev_iald_n (f := (rowS T)) dX7_layBack_45 rfl (by omega) (by decide) ?_
          refine ev_top (y := (nI (T.kd k))) (congrArg nI (show ((rowS T)) (6 + 2 * k) = T.kd k from by exact rowS_kd hlt30)) ?_
          refine ev_iast_n (f := g1) dX7_layBack_46 rfl (by omega) (by decide) ?_
          refine ev_eq (w' := modW 0 ((S.bd, S.st, S.pr, S.ow, up g1 k (T.kd k), g2, g, S.ca, S.ac) : SaleN) X (some kf) ++ row48 20 ((rowS T))) rfl rfl rfl ?_
          refine ev_b bX7_layBack_47_54 (lv' := [(2, .int (nI ((6 + 2 * k) + 1))), (3, .int (nI (k))), (0, .ref 0), (1, .ref 20)]) (st' := [.int (nI ((6 + 2 * k) + 1)), .ref 20, .int (nI (k)), .ref 3]) (w2 := modW 0 ((S.bd, S.st, S.pr, S.ow, up g1 k (T.kd k), g2, g, S.ca, S.ac) : SaleN) X (some kf) ++ row48 20 ((rowS T))) rfl ?_
          refine ev_iinc_n (x := (6 + 2 * k) + 1) (v := 1) dX7_layBack_54 rfl (by decide) ?_
          refine ev_eq (lv' := [(2, .int (nI (((6 + 2 * k) + 1) + 1))), (3, .int (nI (k))), (0, .ref 0), (1, .ref 20)]) rfl rfl rfl ?_
          refine ev_iald_n (f := (rowS T)) dX7_layBack_57 rfl (by omega) (by decide) ?_
          refine ev_top (y := (nI (T.fg k))) (congrArg nI (show ((rowS T)) ((6 + 2 * k) + 1) = T.fg k from by exact rowS_fg hlt30)) ?_
          refine ev_iast_n (f := g2) dX7_layBack_58 rfl (by omega) (by decide) ?_
          refine ev_eq (w' := modW 0 ((S.bd, S.st, S.pr, S.ow, up g1 k (T.kd k), up g2 k (T.fg k), g, S.ca, S.ac) : SaleN) X (some kf) ++ row48 20 ((rowS T))) rfl rfl rfl ?_
          refine ev_iinc_n (x := k) (v := 1) dX7_layBack_59 rfl (by decide) ?_
          refine ev_eq (lv' := [(3, .int (nI (k + 1))), (2, .int (nI (((6 + 2 * k) + 1) + 1))), (0, .ref 0), (1, .ref 20)]) rfl rfl rfl ?_
          refine ev_b bX7_layBack_62_30 (lv' := [(3, .int (nI (k + 1))), (2, .int (nI (((6 + 2 * k) + 1) + 1))), (0, .ref 0), (1, .ref 20)]) (st' := []) (w2 := modW 0 ((S.bd, S.st, S.pr, S.ow, up g1 k (T.kd k), up g2 k (T.fg k), g, S.ca, S.ac) : SaleN) X (some kf) ++ row48 20 ((rowS T))) rfl ?_
          rw [show nI (k + 1) = nI ((k + 1)) from congrArg nI (by omega)]
          rw [show nI (((6 + 2 * k) + 1) + 1) = nI (6 + 2 * (k + 1)) from congrArg nI (by omega)]
          exact ih30 (k + 1) (by omega) _ _ ⟨row_up hinv30.1 rfl, row_up hinv30.2 rfl⟩
      exact L30 5 0 (by omega) S.kd S.fg ⟨(fun j hj => absurd hj (Nat.not_lt_zero j)), (fun j hj => absurd hj (Nat.not_lt_zero j))⟩
    | succ j_ ih4 =>
      intro k hk4 g hinv4
      have hlt4 : k < 6 := by omega
      refine ev_b bX7_layBack_4_7 (lv' := [(3, .int (nI (k))), (2, .int (nI (k))), (0, .ref 0), (1, .ref 20)]) (st' := [.int (nI (6)), .int (nI (k))]) (w2 := modW 0 ((S.bd, S.st, S.pr, S.ow, S.kd, S.fg, g, S.ca, S.ac) : SaleN) X (some kf) ++ row48 20 ((rowS T))) rfl ?_
      refine ev_icmp_ge_n (tgt := 28) (by omega) (by decide) dX7_layBack_7 (by decide) (fun h7 => (by exfalso; omega)) (fun h7 => ?_)
      refine ev_b bX7_layBack_10_17 (lv' := [(3, .int (nI (k))), (2, .int (nI (k))), (0, .ref 0), (1, .ref 20)]) (st' := [.int (nI (k)), .ref 20, .int (nI (k)), .ref 1]) (w2 := modW 0 ((S.bd, S.st, S.pr, S.ow, S.kd, S.fg, g, S.ca, S.ac) : SaleN) X (some kf) ++ row48 20 ((rowS T))) rfl ?_
      refine ev_iinc_n (x := k) (v := 1) dX7_layBack_17 rfl (by decide) ?_
      refine ev_eq (lv' := [(2, .int (nI (k + 1))), (3, .int (nI (k))), (0, .ref 0), (1, .ref 20)]) rfl rfl rfl ?_
      refine ev_iald_n (f := (rowS T)) dX7_layBack_20 rfl (by omega) (by decide) ?_
      refine ev_top (y := (nI (T.rs k))) (congrArg nI (show ((rowS T)) k = T.rs k from by exact rowS_rs hlt4)) ?_
      refine ev_iast_n (f := g) dX7_layBack_21 rfl (by omega) (by decide) ?_
      refine ev_eq (w' := modW 0 ((S.bd, S.st, S.pr, S.ow, S.kd, S.fg, up g k (T.rs k), S.ca, S.ac) : SaleN) X (some kf) ++ row48 20 ((rowS T))) rfl rfl rfl ?_
      refine ev_iinc_n (x := k) (v := 1) dX7_layBack_22 rfl (by decide) ?_
      refine ev_eq (lv' := [(3, .int (nI (k + 1))), (2, .int (nI (k + 1))), (0, .ref 0), (1, .ref 20)]) rfl rfl rfl ?_
      refine ev_b bX7_layBack_25_4 (lv' := [(3, .int (nI (k + 1))), (2, .int (nI (k + 1))), (0, .ref 0), (1, .ref 20)]) (st' := []) (w2 := modW 0 ((S.bd, S.st, S.pr, S.ow, S.kd, S.fg, up g k (T.rs k), S.ca, S.ac) : SaleN) X (some kf) ++ row48 20 ((rowS T))) rfl ?_
      rw [show nI (k + 1) = nI ((k + 1)) from congrArg nI (by omega)]
      rw [show nI (k + 1) = nI ((k + 1)) from congrArg nI (by omega)]
      exact ih4 (k + 1) (by omega) _ (row_up hinv4 rfl)
  exact L4 6 0 (by omega) S.rs (fun j hj => absurd hj (Nat.not_lt_zero j))
set_option maxHeartbeats 4000000 in
set_option maxRecDepth 100000 in
theorem m_X7_layBack_k {l : Launch} {E : XE} (S : SaleN) (X : ModN) (T : SaleN)  : MetE l E mX7_layBack (0) 0 0 [.ref 0, .ref 19] (modW 0 S X (some (rowS T))) (fun r w' => r = none ∧ w' = modW 0 T ((X.rf, X.wo, X.ta, X.ow, 1, X.sh, X.lt, X.ty, X.pl, X.nu, X.od, X.tt, X.oo, X.on, X.wn, X.pd, X.li, X.rr, X.rn, X.dr) : ModN) (some (rowS T))) := by
  refine MetE.of (by decide +kernel) (Nat.le_of_ble_eq_true rfl) ?_
  refine ev_eq (lv' := [(0, .ref 0), (1, .ref 19)]) (st' := []) (w' := modW 0 S X (some (rowS T))) rfl rfl rfl ?_
  refine ev_b bX7_layBack_0_4 (lv' := [(3, .int (nI (0))), (2, .int (nI (0))), (0, .ref 0), (1, .ref 19)]) (st' := []) (w2 := modW 0 S X (some (rowS T))) rfl ?_
  have L4 : ∀ (j_ k : Nat), k + j_ = 6 → ∀ (g : Nat → Nat), (∀ j, j < k → g j = T.rs j) → Ev l E mX7_layBack (0) 0 0 (modW 0 S X (some (rowS T))) (fun r w' => r = none ∧ w' = modW 0 T ((X.rf, X.wo, X.ta, X.ow, 1, X.sh, X.lt, X.ty, X.pl, X.nu, X.od, X.tt, X.oo, X.on, X.wn, X.pd, X.li, X.rr, X.rn, X.dr) : ModN) (some (rowS T))) 0 0 4 [(3, .int (nI (k))), (2, .int (nI (k))), (0, .ref 0), (1, .ref 19)] [] (modW 0 ((S.bd, S.st, S.pr, S.ow, S.kd, S.fg, g, S.ca, S.ac) : SaleN) X (some (rowS T))) := by
    intro j_
    induction j_ with
    | zero =>
      intro k hk4 g hinv4
      replace hk4 : k = 6 := hk4
      subst hk4
      refine ev_b bX7_layBack_4_7 (lv' := [(3, .int (nI (6))), (2, .int (nI (6))), (0, .ref 0), (1, .ref 19)]) (st' := [.int (nI (6)), .int (nI (6))]) (w2 := modW 0 ((S.bd, S.st, S.pr, S.ow, S.kd, S.fg, g, S.ca, S.ac) : SaleN) X (some (rowS T))) rfl ?_
      refine ev_icmp_ge_n (tgt := 28) (by decide) (by decide) dX7_layBack_7 (by decide) (fun h7 => ?_) (fun h7 => (by exfalso; omega))
      refine ev_b bX7_layBack_28_30 (lv' := [(3, .int (nI (0))), (2, .int (nI (6))), (0, .ref 0), (1, .ref 19)]) (st' := []) (w2 := modW 0 ((S.bd, S.st, S.pr, S.ow, S.kd, S.fg, g, S.ca, S.ac) : SaleN) X (some (rowS T))) rfl ?_
      have L30 : ∀ (j_ k : Nat), k + j_ = 5 → ∀ (g1 g2 : Nat → Nat), ((∀ j, j < k → g1 j = T.kd j) ∧ ∀ j, j < k → g2 j = T.fg j) → Ev l E mX7_layBack (0) 0 0 (modW 0 S X (some (rowS T))) (fun r w' => r = none ∧ w' = modW 0 T ((X.rf, X.wo, X.ta, X.ow, 1, X.sh, X.lt, X.ty, X.pl, X.nu, X.od, X.tt, X.oo, X.on, X.wn, X.pd, X.li, X.rr, X.rn, X.dr) : ModN) (some (rowS T))) 0 0 30 [(3, .int (nI (k))), (2, .int (nI (6 + 2 * k))), (0, .ref 0), (1, .ref 19)] [] (modW 0 ((S.bd, S.st, S.pr, S.ow, g1, g2, g, S.ca, S.ac) : SaleN) X (some (rowS T))) := by
        intro j_
        induction j_ with
        | zero =>
          intro k hk30 g1 g2 hinv30
          replace hk30 : k = 5 := hk30
          subst hk30
          refine ev_b bX7_layBack_30_32 (lv' := [(3, .int (nI (5))), (2, .int (nI (6 + 2 * 5))), (0, .ref 0), (1, .ref 19)]) (st' := [.int (nI (5)), .int (nI (5))]) (w2 := modW 0 ((S.bd, S.st, S.pr, S.ow, g1, g2, g, S.ca, S.ac) : SaleN) X (some (rowS T))) rfl ?_
          refine ev_icmp_ge_n (tgt := 65) (by decide) (by decide) dX7_layBack_32 (by decide) (fun h32 => ?_) (fun h32 => (by exfalso; omega))
          refine ev_b bX7_layBack_65_67 (lv' := [(3, .int (nI (0))), (2, .int (nI (6 + 2 * 5))), (0, .ref 0), (1, .ref 19)]) (st' := []) (w2 := modW 0 ((S.bd, S.st, S.pr, S.ow, g1, g2, g, S.ca, S.ac) : SaleN) X (some (rowS T))) rfl ?_
          have L67 : ∀ (j_ k : Nat), k + j_ = 10 → ∀ (g3 g4 g5 : Nat → Nat), ((∀ j, j < k → g3 j = T.bd j) ∧ (∀ j, j < k → g4 j = T.st j) ∧ ∀ j, j < k → g5 j = T.pr j) → Ev l E mX7_layBack (0) 0 0 (modW 0 S X (some (rowS T))) (fun r w' => r = none ∧ w' = modW 0 T ((X.rf, X.wo, X.ta, X.ow, 1, X.sh, X.lt, X.ty, X.pl, X.nu, X.od, X.tt, X.oo, X.on, X.wn, X.pd, X.li, X.rr, X.rn, X.dr) : ModN) (some (rowS T))) 0 0 67 [(3, .int (nI (k))), (2, .int (nI (16 + 3 * k))), (0, .ref 0), (1, .ref 19)] [] (modW 0 ((g3, g4, g5, S.ow, g1, g2, g, S.ca, S.ac) : SaleN) X (some (rowS T))) := by
            intro j_
            induction j_ with
            | zero =>
              intro k hk67 g3 g4 g5 hinv67
              replace hk67 : k = 10 := hk67
              subst hk67
              refine ev_b bX7_layBack_67_70 (lv' := [(3, .int (nI (10))), (2, .int (nI (16 + 3 * 10))), (0, .ref 0), (1, .ref 19)]) (st' := [.int (nI (10)), .int (nI (10))]) (w2 := modW 0 ((g3, g4, g5, S.ow, g1, g2, g, S.ca, S.ac) : SaleN) X (some (rowS T))) rfl ?_
              refine ev_icmp_ge_n (tgt := 115) (by decide) (by decide) dX7_layBack_70 (by decide) (fun h70 => ?_) (fun h70 => (by exfalso; omega))
              refine ev_b bX7_layBack_115_118 (lv' := [(3, .int (nI (10))), (2, .int (nI (16 + 3 * 10))), (0, .ref 0), (1, .ref 19)]) (st' := [.int (nI (16 + 3 * 10)), .ref 19, .ref 0]) (w2 := modW 0 ((g3, g4, g5, S.ow, g1, g2, g, S.ca, S.ac) : SaleN) X (some (rowS T))) rfl ?_
              refine ev_iald_n (f := (rowS T)) dX7_layBack_118 rfl (by omega) (by decide) ?_
              refine ev_top (y := (nI (T.ca))) (congrArg nI (show ((rowS T)) (16 + 3 * 10) = T.ca from by exact rowS_ca)) ?_
              refine ev_b bX7_layBack_119_126 (lv' := [(3, .int (nI (10))), (2, .int (nI (16 + 3 * 10))), (0, .ref 0), (1, .ref 19)]) (st' := [.int (nI (1)), .int (nI (16 + 3 * 10)), .ref 19, .ref 0]) (w2 := modW 0 ((g3, g4, g5, S.ow, g1, g2, g, T.ca, S.ac) : SaleN) X (some (rowS T))) rfl ?_
              refine ev_iadd_n dX7_layBack_126 ?_
              refine ev_iald_n (f := (rowS T)) dX7_layBack_127 rfl (by omega) (by decide) ?_
              refine ev_top (y := (nI (T.ac))) (congrArg nI (show ((rowS T)) ((16 + 3 * 10) + 1) = T.ac from by exact rowS_ac)) ?_
              refine ev_b bX7_layBack_128_133 (lv' := [(3, .int (nI (10))), (2, .int (nI (16 + 3 * 10))), (0, .ref 0), (1, .ref 19)]) (st' := [.int (nI (1)), .ref 0]) (w2 := modW 0 ((g3, g4, g5, S.ow, g1, g2, g, T.ca, T.ac) : SaleN) X (some (rowS T))) rfl ?_
              refine snd_put (ci := 8) (k := 12) (a := 0) dX7_layBack_133 rfl inX7 tyX7_ok nmX7 (by decide) tw_926 rfl rfl (Nat.le_of_ble_eq_true rfl) (fun _ => rfl) (fun _ => rfl) ?_
              refine ev_eq (w' := modW 0 ((g3, g4, g5, S.ow, g1, g2, g, T.ca, T.ac) : SaleN) ((X.rf, X.wo, X.ta, X.ow, 1, X.sh, X.lt, X.ty, X.pl, X.nu, X.od, X.tt, X.oo, X.on, X.wn, X.pd, X.li, X.rr, X.rn, X.dr) : ModN) (some (rowS T))) rfl rfl rfl ?_
              refine ev_arr (b := 1) (g := aI T.rs) rfl (fun j hj => congrArg nI (hinv4 j hj)) ?_
              refine ev_arr (b := 2) (g := aI T.kd) rfl (fun j hj => congrArg nI (hinv30.1 j hj)) ?_
              refine ev_arr (b := 3) (g := aI T.fg) rfl (fun j hj => congrArg nI (hinv30.2 j hj)) ?_
              refine ev_arr (b := 4) (g := aI T.bd) rfl (fun j hj => congrArg nI (hinv67.1 j hj)) ?_
              refine ev_arr (b := 5) (g := aI T.st) rfl (fun j hj => congrArg nI (hinv67.2.1 j hj)) ?_
              refine ev_arr (b := 6) (g := aI T.pr) rfl (fun j hj => congrArg nI (hinv67.2.2 j hj)) ?_
              refine ev_eq (w' := modW 0 T ((X.rf, X.wo, X.ta, X.ow, 1, X.sh, X.lt, X.ty, X.pl, X.nu, X.od, X.tt, X.oo, X.on, X.wn, X.pd, X.li, X.rr, X.rn, X.dr) : ModN) (some (rowS T))) rfl rfl rfl ?_
              exact ev_vret dX7_layBack_136 rfl mod_le (Nat.le_refl _) (Nat.le_refl _) ⟨rfl, rfl⟩
            | succ j_ ih67 =>
              intro k hk67 g3 g4 g5 hinv67
              have hlt67 : k < 10 := by omega
              refine ev_b bX7_layBack_67_70 (lv' := [(3, .int (nI (k))), (2, .int (nI (16 + 3 * k))), (0, .ref 0), (1, .ref 19)]) (st' := [.int (nI (10)), .int (nI (k))]) (w2 := modW 0 ((g3, g4, g5, S.ow, g1, g2, g, S.ca, S.ac) : SaleN) X (some (rowS T))) rfl ?_
              refine ev_icmp_ge_n (tgt := 115) (by omega) (by decide) dX7_layBack_70 (by decide) (fun h70 => (by exfalso; omega)) (fun h70 => ?_)
              refine ev_b bX7_layBack_73_80 (lv' := [(3, .int (nI (k))), (2, .int (nI (16 + 3 * k))), (0, .ref 0), (1, .ref 19)]) (st' := [.int (nI (16 + 3 * k)), .ref 19, .int (nI (k)), .ref 4]) (w2 := modW 0 ((g3, g4, g5, S.ow, g1, g2, g, S.ca, S.ac) : SaleN) X (some (rowS T))) rfl ?_
              refine ev_iinc_n (x := 16 + 3 * k) (v := 1) dX7_layBack_80 rfl (by decide) ?_
              refine ev_eq (lv' := [(2, .int (nI ((16 + 3 * k) + 1))), (3, .int (nI (k))), (0, .ref 0), (1, .ref 19)]) rfl rfl rfl ?_
              refine ev_iald_n (f := (rowS T)) dX7_layBack_83 rfl (by omega) (by decide) ?_
              refine ev_top (y := (nI (T.bd k))) (congrArg nI (show ((rowS T)) (16 + 3 * k) = T.bd k from by exact rowS_bd hlt67)) ?_
              refine ev_iast_n (f := g3) dX7_layBack_84 rfl (by omega) (by decide) ?_
              refine ev_eq (w' := modW 0 ((up g3 k (T.bd k), g4, g5, S.ow, g1, g2, g, S.ca, S.ac) : SaleN) X (some (rowS T))) rfl rfl rfl ?_
              refine ev_b bX7_layBack_85_92 (lv' := [(2, .int (nI ((16 + 3 * k) + 1))), (3, .int (nI (k))), (0, .ref 0), (1, .ref 19)]) (st' := [.int (nI ((16 + 3 * k) + 1)), .ref 19, .int (nI (k)), .ref 5]) (w2 := modW 0 ((up g3 k (T.bd k), g4, g5, S.ow, g1, g2, g, S.ca, S.ac) : SaleN) X (some (rowS T))) rfl ?_
              refine ev_iinc_n (x := (16 + 3 * k) + 1) (v := 1) dX7_layBack_92 rfl (by decide) ?_
              refine ev_eq (lv' := [(2, .int (nI (((16 + 3 * k) + 1) + 1))), (3, .int (nI (k))), (0, .ref 0), (1, .ref 19)]) rfl rfl rfl ?_
              refine ev_iald_n (f := (rowS T)) dX7_layBack_95 rfl (by omega) (by decide) ?_
              refine ev_top (y := (nI (T.st k))) (congrArg nI (show ((rowS T)) ((16 + 3 * k) + 1) = T.st k from by exact rowS_st hlt67)) ?_
              refine ev_iast_n (f := g4) dX7_layBack_96 rfl (by omega) (by decide) ?_
              refine ev_eq (w' := modW 0 ((up g3 k (T.bd k), up g4 k (T.st k), g5, S.ow, g1, g2, g, S.ca, S.ac) : SaleN) X (some (rowS T))) rfl rfl rfl ?_
              refine ev_b bX7_layBack_97_104 (lv' := [(2, .int (nI (((16 + 3 * k) + 1) + 1))), (3, .int (nI (k))), (0, .ref 0), (1, .ref 19)]) (st' := [.int (nI (((16 + 3 * k) + 1) + 1)), .ref 19, .int (nI (k)), .ref 6]) (w2 := modW 0 ((up g3 k (T.bd k), up g4 k (T.st k), g5, S.ow, g1, g2, g, S.ca, S.ac) : SaleN) X (some (rowS T))) rfl ?_
              refine ev_iinc_n (x := ((16 + 3 * k) + 1) + 1) (v := 1) dX7_layBack_104 rfl (by decide) ?_
              refine ev_eq (lv' := [(2, .int (nI ((((16 + 3 * k) + 1) + 1) + 1))), (3, .int (nI (k))), (0, .ref 0), (1, .ref 19)]) rfl rfl rfl ?_
              refine ev_iald_n (f := (rowS T)) dX7_layBack_107 rfl (by omega) (by decide) ?_
              refine ev_top (y := (nI (T.pr k))) (congrArg nI (show ((rowS T)) (((16 + 3 * k) + 1) + 1) = T.pr k from by exact rowS_pr hlt67)) ?_
              refine ev_iast_n (f := g5) dX7_layBack_108 rfl (by omega) (by decide) ?_
              refine ev_eq (w' := modW 0 ((up g3 k (T.bd k), up g4 k (T.st k), up g5 k (T.pr k), S.ow, g1, g2, g, S.ca, S.ac) : SaleN) X (some (rowS T))) rfl rfl rfl ?_
              refine ev_iinc_n (x := k) (v := 1) dX7_layBack_109 rfl (by decide) ?_
              refine ev_eq (lv' := [(3, .int (nI (k + 1))), (2, .int (nI ((((16 + 3 * k) + 1) + 1) + 1))), (0, .ref 0), (1, .ref 19)]) rfl rfl rfl ?_
              refine ev_b bX7_layBack_112_67 (lv' := [(3, .int (nI (k + 1))), (2, .int (nI ((((16 + 3 * k) + 1) + 1) + 1))), (0, .ref 0), (1, .ref 19)]) (st' := []) (w2 := modW 0 ((up g3 k (T.bd k), up g4 k (T.st k), up g5 k (T.pr k), S.ow, g1, g2, g, S.ca, S.ac) : SaleN) X (some (rowS T))) rfl ?_
              rw [show nI (k + 1) = nI ((k + 1)) from congrArg nI (by omega)]
              rw [show nI ((((16 + 3 * k) + 1) + 1) + 1) = nI (16 + 3 * (k + 1)) from congrArg nI (by omega)]
              exact ih67 (k + 1) (by omega) _ _ _ ⟨row_up hinv67.1 rfl, row_up hinv67.2.1 rfl, row_up hinv67.2.2 rfl⟩
          exact L67 10 0 (by omega) S.bd S.st S.pr ⟨(fun j hj => absurd hj (Nat.not_lt_zero j)), (fun j hj => absurd hj (Nat.not_lt_zero j)), (fun j hj => absurd hj (Nat.not_lt_zero j))⟩
        | succ j_ ih30 =>
          intro k hk30 g1 g2 hinv30
          have hlt30 : k < 5 := by omega
          refine ev_b bX7_layBack_30_32 (lv' := [(3, .int (nI (k))), (2, .int (nI (6 + 2 * k))), (0, .ref 0), (1, .ref 19)]) (st' := [.int (nI (5)), .int (nI (k))]) (w2 := modW 0 ((S.bd, S.st, S.pr, S.ow, g1, g2, g, S.ca, S.ac) : SaleN) X (some (rowS T))) rfl ?_
          refine ev_icmp_ge_n (tgt := 65) (by omega) (by decide) dX7_layBack_32 (by decide) (fun h32 => (by exfalso; omega)) (fun h32 => ?_)
          refine ev_b bX7_layBack_35_42 (lv' := [(3, .int (nI (k))), (2, .int (nI (6 + 2 * k))), (0, .ref 0), (1, .ref 19)]) (st' := [.int (nI (6 + 2 * k)), .ref 19, .int (nI (k)), .ref 2]) (w2 := modW 0 ((S.bd, S.st, S.pr, S.ow, g1, g2, g, S.ca, S.ac) : SaleN) X (some (rowS T))) rfl ?_
          refine ev_iinc_n (x := 6 + 2 * k) (v := 1) dX7_layBack_42 rfl (by decide) ?_
          refine ev_eq (lv' := [(2, .int (nI ((6 + 2 * k) + 1))), (3, .int (nI (k))), (0, .ref 0), (1, .ref 19)]) rfl rfl rfl ?_
          refine ev_iald_n (f := (rowS T)) dX7_layBack_45 rfl (by omega) (by decide) ?_
          refine ev_top (y := (nI (T.kd k))) (congrArg nI (show ((rowS T)) (6 + 2 * k) = T.kd k from by exact rowS_kd hlt30)) ?_
          refine ev_iast_n (f := g1) dX7_layBack_46 rfl (by omega) (by decide) ?_
          refine ev_eq (w' := modW 0 ((S.bd, S.st, S.pr, S.ow, up g1 k (T.kd k), g2, g, S.ca, S.ac) : SaleN) X (some (rowS T))) rfl rfl rfl ?_
          refine ev_b bX7_layBack_47_54 (lv' := [(2, .int (nI ((6 + 2 * k) + 1))), (3, .int (nI (k))), (0, .ref 0), (1, .ref 19)]) (st' := [.int (nI ((6 + 2 * k) + 1)), .ref 19, .int (nI (k)), .ref 3]) (w2 := modW 0 ((S.bd, S.st, S.pr, S.ow, up g1 k (T.kd k), g2, g, S.ca, S.ac) : SaleN) X (some (rowS T))) rfl ?_
          refine ev_iinc_n (x := (6 + 2 * k) + 1) (v := 1) dX7_layBack_54 rfl (by decide) ?_
          refine ev_eq (lv' := [(2, .int (nI (((6 + 2 * k) + 1) + 1))), (3, .int (nI (k))), (0, .ref 0), (1, .ref 19)]) rfl rfl rfl ?_
          refine ev_iald_n (f := (rowS T)) dX7_layBack_57 rfl (by omega) (by decide) ?_
          refine ev_top (y := (nI (T.fg k))) (congrArg nI (show ((rowS T)) ((6 + 2 * k) + 1) = T.fg k from by exact rowS_fg hlt30)) ?_
          refine ev_iast_n (f := g2) dX7_layBack_58 rfl (by omega) (by decide) ?_
          refine ev_eq (w' := modW 0 ((S.bd, S.st, S.pr, S.ow, up g1 k (T.kd k), up g2 k (T.fg k), g, S.ca, S.ac) : SaleN) X (some (rowS T))) rfl rfl rfl ?_
          refine ev_iinc_n (x := k) (v := 1) dX7_layBack_59 rfl (by decide) ?_
          refine ev_eq (lv' := [(3, .int (nI (k + 1))), (2, .int (nI (((6 + 2 * k) + 1) + 1))), (0, .ref 0), (1, .ref 19)]) rfl rfl rfl ?_
          refine ev_b bX7_layBack_62_30 (lv' := [(3, .int (nI (k + 1))), (2, .int (nI (((6 + 2 * k) + 1) + 1))), (0, .ref 0), (1, .ref 19)]) (st' := []) (w2 := modW 0 ((S.bd, S.st, S.pr, S.ow, up g1 k (T.kd k), up g2 k (T.fg k), g, S.ca, S.ac) : SaleN) X (some (rowS T))) rfl ?_
          rw [show nI (k + 1) = nI ((k + 1)) from congrArg nI (by omega)]
          rw [show nI (((6 + 2 * k) + 1) + 1) = nI (6 + 2 * (k + 1)) from congrArg nI (by omega)]
          exact ih30 (k + 1) (by omega) _ _ ⟨row_up hinv30.1 rfl, row_up hinv30.2 rfl⟩
      exact L30 5 0 (by omega) S.kd S.fg ⟨(fun j hj => absurd hj (Nat.not_lt_zero j)), (fun j hj => absurd hj (Nat.not_lt_zero j))⟩
    | succ j_ ih4 =>
      intro k hk4 g hinv4
      have hlt4 : k < 6 := by omega
      refine ev_b bX7_layBack_4_7 (lv' := [(3, .int (nI (k))), (2, .int (nI (k))), (0, .ref 0), (1, .ref 19)]) (st' := [.int (nI (6)), .int (nI (k))]) (w2 := modW 0 ((S.bd, S.st, S.pr, S.ow, S.kd, S.fg, g, S.ca, S.ac) : SaleN) X (some (rowS T))) rfl ?_
      refine ev_icmp_ge_n (tgt := 28) (by omega) (by decide) dX7_layBack_7 (by decide) (fun h7 => (by exfalso; omega)) (fun h7 => ?_)
      refine ev_b bX7_layBack_10_17 (lv' := [(3, .int (nI (k))), (2, .int (nI (k))), (0, .ref 0), (1, .ref 19)]) (st' := [.int (nI (k)), .ref 19, .int (nI (k)), .ref 1]) (w2 := modW 0 ((S.bd, S.st, S.pr, S.ow, S.kd, S.fg, g, S.ca, S.ac) : SaleN) X (some (rowS T))) rfl ?_
      refine ev_iinc_n (x := k) (v := 1) dX7_layBack_17 rfl (by decide) ?_
      refine ev_eq (lv' := [(2, .int (nI (k + 1))), (3, .int (nI (k))), (0, .ref 0), (1, .ref 19)]) rfl rfl rfl ?_
      refine ev_iald_n (f := (rowS T)) dX7_layBack_20 rfl (by omega) (by decide) ?_
      refine ev_top (y := (nI (T.rs k))) (congrArg nI (show ((rowS T)) k = T.rs k from by exact rowS_rs hlt4)) ?_
      refine ev_iast_n (f := g) dX7_layBack_21 rfl (by omega) (by decide) ?_
      refine ev_eq (w' := modW 0 ((S.bd, S.st, S.pr, S.ow, S.kd, S.fg, up g k (T.rs k), S.ca, S.ac) : SaleN) X (some (rowS T))) rfl rfl rfl ?_
      refine ev_iinc_n (x := k) (v := 1) dX7_layBack_22 rfl (by decide) ?_
      refine ev_eq (lv' := [(3, .int (nI (k + 1))), (2, .int (nI (k + 1))), (0, .ref 0), (1, .ref 19)]) rfl rfl rfl ?_
      refine ev_b bX7_layBack_25_4 (lv' := [(3, .int (nI (k + 1))), (2, .int (nI (k + 1))), (0, .ref 0), (1, .ref 19)]) (st' := []) (w2 := modW 0 ((S.bd, S.st, S.pr, S.ow, S.kd, S.fg, up g k (T.rs k), S.ca, S.ac) : SaleN) X (some (rowS T))) rfl ?_
      rw [show nI (k + 1) = nI ((k + 1)) from congrArg nI (by omega)]
      rw [show nI (k + 1) = nI ((k + 1)) from congrArg nI (by omega)]
      exact ih4 (k + 1) (by omega) _ (row_up hinv4 rfl)
  exact L4 6 0 (by omega) S.rs (fun j hj => absurd hj (Nat.not_lt_zero j))
