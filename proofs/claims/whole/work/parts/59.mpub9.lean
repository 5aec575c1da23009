theorem bX7_missing_75_78 {l : Launch} {E : XE} : Snd l E mX7_missing 75 78 (xs [x_push (.long 0), x_lstore 4]) := Snd.cons (snd_lconst (v := 0) dX7_missing_75 (by decide)) (Snd.cons (snd_lstore dX7_missing_76 (by decide)) Snd.nil)
theorem bX7_missing_78_85 {l : Launch} {E : XE} : Snd l E mX7_missing 78 85 (xs [x_push (.long 1), x_lstore 6, x_aload 0, x_get 8 7]) := Snd.cons (snd_lconst (v := 1) dX7_missing_78 (by decide)) (Snd.cons (snd_lstore dX7_missing_79 (by decide)) (Snd.cons (snd_aload_n (i := 0) dX7_missing_81 rfl) (Snd.cons (snd_get (ci := 8) (k := 7) dX7_missing_82 rfl inX7 (by decide) tw_921) Snd.nil)))
theorem bX7_missing_88_90 {l : Launch} {E : XE} : Snd l E mX7_missing 88 90 (xs [x_istore 8]) := Snd.cons (snd_istore dX7_missing_88 (by decide)) Snd.nil
theorem bX7_missing_90_92 {l : Launch} {E : XE} : Snd l E mX7_missing 90 92 (xs [x_iload 8]) := Snd.cons (snd_iload dX7_missing_90) Snd.nil
theorem bX7_missing_108_114 {l : Launch} {E : XE} : Snd l E mX7_missing 108 114 (xs [x_aload 0, x_get 8 7, x_istore 8]) := Snd.cons (snd_aload_n (i := 0) dX7_missing_108 rfl) (Snd.cons (snd_get (ci := 8) (k := 7) dX7_missing_109 rfl inX7 (by decide) tw_921) (Snd.cons (snd_istore dX7_missing_112 (by decide)) Snd.nil))
theorem bX7_missing_114_116 {l : Launch} {E : XE} : Snd l E mX7_missing 114 116 (xs [x_iload 8]) := Snd.cons (snd_iload dX7_missing_114) Snd.nil
theorem bX7_missing_186_191 {l : Launch} {E : XE} : Snd l E mX7_missing 186 191 (xs [x_lload 4, x_lload 6, x_iload 3]) := Snd.cons (snd_lload dX7_missing_186) (Snd.cons (snd_lload dX7_missing_188) (Snd.cons (snd_iload_n (i := 3) dX7_missing_190 rfl) Snd.nil))
theorem bX7_missing_119_122 {l : Launch} {E : XE} : Snd l E mX7_missing 119 122 (xs [x_aload 0, x_iload 8]) := Snd.cons (snd_aload_n (i := 0) dX7_missing_119 rfl) (Snd.cons (snd_iload dX7_missing_120) Snd.nil)
theorem bX7_missing_125_126 {l : Launch} {E : XE} : Snd l E mX7_missing 125 126 (xs [x_iload 1]) := Snd.cons (snd_iload_n (i := 1) dX7_missing_125 rfl) Snd.nil
theorem bX7_missing_135_140 {l : Launch} {E : XE} : Snd l E mX7_missing 135 140 (xs [x_push (.long 1), x_lstore 9, x_iload 8]) := Snd.cons (snd_lconst (v := 1) dX7_missing_135 (by decide)) (Snd.cons (snd_lstore dX7_missing_136 (by decide)) (Snd.cons (snd_iload dX7_missing_138) Snd.nil))
theorem bX7_missing_143_145 {l : Launch} {E : XE} : Snd l E mX7_missing 143 145 (xs [x_istore 11]) := Snd.cons (snd_istore dX7_missing_143 (by decide)) Snd.nil
theorem bX7_missing_145_147 {l : Launch} {E : XE} : Snd l E mX7_missing 145 147 (xs [x_iload 11]) := Snd.cons (snd_iload dX7_missing_145) Snd.nil
theorem bX7_missing_165_170 {l : Launch} {E : XE} : Snd l E mX7_missing 165 170 (xs [x_lload 4, x_lload 9, x_l2 (fun x y => x + y)]) := Snd.cons (snd_lload dX7_missing_165) (Snd.cons (snd_lload dX7_missing_167) (Snd.cons (snd_ladd dX7_missing_169) Snd.nil))
theorem bX7_missing_170_175 {l : Launch} {E : XE} : Snd l E mX7_missing 170 175 (xs [x_lstore 4, x_iload 8, x_push (.int (nI 1))]) := Snd.cons (snd_lstore dX7_missing_170 (by decide)) (Snd.cons (snd_iload dX7_missing_172) (Snd.cons (snd_iconst (v := nI 1) dX7_missing_174 (by decide)) Snd.nil))
theorem bX7_missing_176_180 {l : Launch} {E : XE} : Snd l E mX7_missing 176 180 (xs [x_aload 0, x_get 8 7]) := Snd.cons (snd_aload_n (i := 0) dX7_missing_176 rfl) (Snd.cons (snd_get (ci := 8) (k := 7) dX7_missing_177 rfl inX7 (by decide) tw_921) Snd.nil)
theorem bX7_missing_181_114 {l : Launch} {E : XE} : Snd l E mX7_missing 181 114 (xs [x_istore 8, x_id]) := Snd.cons (snd_istore dX7_missing_181 (by decide)) (Snd.cons (snd_goto (tgt := 114) dX7_missing_183 (by decide)) Snd.nil)
theorem bX7_missing_150_154 {l : Launch} {E : XE} : Snd l E mX7_missing 150 154 (xs [x_lload 9, x_iload 2, x_push (.int (nI 1))]) := Snd.cons (snd_lload dX7_missing_150) (Snd.cons (snd_iload_n (i := 2) dX7_missing_152 rfl) (Snd.cons (snd_iconst (v := nI 1) dX7_missing_153 (by decide)) Snd.nil))
theorem bX7_missing_155_156 {l : Launch} {E : XE} : Snd l E mX7_missing 155 156 (xs [x_i2l]) := Snd.cons (snd_i2l dX7_missing_155) Snd.nil
theorem bX7_missing_156_157 {l : Launch} {E : XE} : Snd l E mX7_missing 156 157 (xs [x_l2 (fun x y => x * y)]) := Snd.cons (snd_lmul dX7_missing_156) Snd.nil
theorem bX7_missing_157_159 {l : Launch} {E : XE} : Snd l E mX7_missing 157 159 (xs [x_lstore 9]) := Snd.cons (snd_lstore dX7_missing_157 (by decide)) Snd.nil
theorem bX7_missing_162_145 {l : Launch} {E : XE} : Snd l E mX7_missing 162 145 (xs [x_id]) := Snd.cons (snd_goto (tgt := 145) dX7_missing_162 (by decide)) Snd.nil
theorem bX7_missing_132_175 {l : Launch} {E : XE} : Snd l E mX7_missing 132 175 (xs [x_id, x_iload 8, x_push (.int (nI 1))]) := Snd.cons (snd_goto (tgt := 172) dX7_missing_132 (by decide)) (Snd.cons (snd_iload dX7_missing_172) (Snd.cons (snd_iconst (v := nI 1) dX7_missing_174 (by decide)) Snd.nil))
theorem bX7_missing_95_99 {l : Launch} {E : XE} : Snd l E mX7_missing 95 99 (xs [x_lload 6, x_iload 2, x_i2l]) := Snd.cons (snd_lload dX7_missing_95) (Snd.cons (snd_iload_n (i := 2) dX7_missing_97 rfl) (Snd.cons (snd_i2l dX7_missing_98) Snd.nil))
theorem bX7_missing_99_100 {l : Launch} {E : XE} : Snd l E mX7_missing 99 100 (xs [x_l2 (fun x y => x * y)]) := Snd.cons (snd_lmul dX7_missing_99) Snd.nil
theorem bX7_missing_100_102 {l : Launch} {E : XE} : Snd l E mX7_missing 100 102 (xs [x_lstore 6]) := Snd.cons (snd_lstore dX7_missing_100 (by decide)) Snd.nil
theorem bX7_missing_105_90 {l : Launch} {E : XE} : Snd l E mX7_missing 105 90 (xs [x_id]) := Snd.cons (snd_goto (tgt := 90) dX7_missing_105 (by decide)) Snd.nil
set_option maxHeartbeats 4000000 in
set_option maxRecDepth 100000 in
theorem q_missing_w0 {l : Launch} {E : XE} (S : SaleN) (X : ModN) (K : Option (Nat → Nat)) (b t : Nat) (hS : SaleOK S) (hM : MOK S X) (hb : b < S.ca) (ht : 2 ≤ t ∧ t ≤ 20) : MetE l E mX7_missing (5) 0 0 [.ref 0, .int (nI (b)), .int (nI (t)), .int (nI (0))] (modW 0 S X K) (MP S K (X.lt) (X.ty) (X.rr) (X.rn) (X.rf) (some (.long (lN (frN (abTo S b t 1024) (t ^ pop S.ac) 0))))) := by
  refine MetE.of (by decide +kernel) (Nat.le_of_ble_eq_true rfl) ?_
  have hca := hS.1
  have hpw := pow_ca hS
  have hac := ac_lt hS
  have hshl := shl_le hS
  
  refine ev_eq (lv' := [(0, .ref 0), (1, .int (nI (b))), (2, .int (nI (t))), (3, .int (nI (0)))]) (st' := []) (w' := modW 0 S X K) rfl rfl rfl ?_
  refine ev_b bX7_missing_0_2 (lv' := [(0, .ref 0), (1, .int (nI (b))), (2, .int (nI (t))), (3, .int (nI (0)))]) (st' := [.int (nI (b)), .ref 0]) (w2 := modW 0 S X K) rfl ?_
  refine ev_callM (Yc := mX7_isBid) (st := []) dX7_missing_2 tw_1084 kX7_isBid (m_X7_isBid_n S X K b hca (by omega)) rfl rfl rfl rfl (by decide) (Nat.le_of_ble_eq_true rfl) (Nat.le_refl _) (Nat.le_refl _) (fun r w' h => by obtain ⟨-, rfl⟩ := h; exact mod_eq) ?_
  rintro _ _ ⟨rfl, rfl⟩
  refine ev_eq (lv' := [(0, .ref 0), (1, .int (nI (b))), (2, .int (nI (t))), (3, .int (nI (0)))]) (st' := [.int (nI (b01 (b < S.ca)))]) (w' := modW 0 S X K) rfl rfl rfl ?_
  refine ev_ifne_b (tgt := 19) dX7_missing_5 (by decide) (fun h5 => ?_) (fun h5 => (by exfalso; omega))
  refine ev_b bX7_missing_19_21 (lv' := [(0, .ref 0), (1, .int (nI (b))), (2, .int (nI (t))), (3, .int (nI (0)))]) (st' := [.int (nI (2)), .int (nI (t))]) (w2 := modW 0 S X K) rfl ?_
  refine ev_icmp_ge_n (tgt := 36) (by omega) (by decide) dX7_missing_21 (by decide) (fun h21 => ?_) (fun h21 => (by exfalso; omega))
  refine ev_b bX7_missing_36_39 (lv' := [(0, .ref 0), (1, .int (nI (b))), (2, .int (nI (t))), (3, .int (nI (0)))]) (st' := [.int (nI (20)), .int (nI (t))]) (w2 := modW 0 S X K) rfl ?_
  refine ev_icmp_le_n (tgt := 54) (by omega) (by decide) dX7_missing_39 (by decide) (fun h39 => ?_) (fun h39 => (by exfalso; omega))
  refine ev_b bX7_missing_54_57 (lv' := [(0, .ref 0), (1, .int (nI (b))), (2, .int (nI (t))), (3, .int (nI (0)))]) (st' := [.int (nI (1)), .int (nI (0)), .int (nI (0))]) (w2 := modW 0 S X K) rfl ?_
  refine ev_callS (Yc := mX7_isIn) [] dX7_missing_57 tw_1036 kX7_isIn (m_X7_isIn_n 0 0 1 (by decide) (by decide) (by decide)) rfl (st := []) rfl (by decide) rfl (by decide) (Nat.le_of_ble_eq_true rfl) (Nat.le_refl _) (Nat.le_refl _) (fun r w' h => by obtain ⟨-, rfl⟩ := h; exact Nat.le_of_ble_eq_true rfl) ?_
  rintro _ _ ⟨rfl, rfl⟩
  refine ev_eq (lv' := [(0, .ref 0), (1, .int (nI (b))), (2, .int (nI (t))), (3, .int (nI (0)))]) (st' := [.int (nI (b01 (0 ≤ 0 ∧ 0 ≤ 1)))]) (w' := modW 0 S X K) rfl rfl rfl ?_
  refine ev_ifne_b (tgt := 75) dX7_missing_60 (by decide) (fun h60 => ?_) (fun h60 => (by exfalso; omega))
  refine ev_b bX7_missing_75_78 (lv' := [(4, .long (0)), (0, .ref 0), (1, .int (nI (b))), (2, .int (nI (t))), (3, .int (nI (0)))]) (st' := []) (w2 := modW 0 S X K) rfl ?_
  skip
  refine ev_b bX7_missing_78_85 (lv' := [(6, .long (1)), (4, .long (0)), (0, .ref 0), (1, .int (nI (b))), (2, .int (nI (t))), (3, .int (nI (0)))]) (st' := [.int (nI (S.ac))]) (w2 := modW 0 S X K) rfl ?_
  refine ev_callS (Yc := mX7_size) [] dX7_missing_85 tw_1132 kX7_size (m_X7_size S.ac (by have := hS.2.1; omega)) rfl (st := []) rfl (by decide) rfl (by decide) (Nat.le_of_ble_eq_true rfl) (Nat.le_refl _) (Nat.le_refl _) (fun r w' h => by obtain ⟨-, rfl⟩ := h; exact Nat.le_of_ble_eq_true rfl) ?_
  rintro _ _ ⟨rfl, rfl⟩
  refine ev_eq (lv' := [(6, .long (1)), (4, .long (0)), (0, .ref 0), (1, .int (nI (b))), (2, .int (nI (t))), (3, .int (nI (0)))]) (st' := [.int (nI (pop S.ac))]) (w' := modW 0 S X K) rfl rfl rfl ?_
  refine ev_b bX7_missing_88_90 (lv' := [(8, .int (nI (pop S.ac))), (6, .long (1)), (4, .long (0)), (0, .ref 0), (1, .int (nI (b))), (2, .int (nI (t))), (3, .int (nI (0)))]) (st' := []) (w2 := modW 0 S X K) rfl ?_
  have L90 : ∀ (j_ k : Nat), k + j_ = pop S.ac → Ev l E mX7_missing (5) 0 0 (modW 0 S X K) (MP S K (X.lt) (X.ty) (X.rr) (X.rn) (X.rf) (some (.long (lN (frN (abTo S b t 1024) (t ^ pop S.ac) 0))))) 0 0 90 [(8, .int (nI (pop S.ac - k))), (6, .long (lN (t ^ k))), (0, .ref 0), (1, .int (nI (b))), (2, .int (nI (t))), (3, .int (nI (0))), (4, .long (0))] [] (modW 0 S X K) := by
    intro j_
    induction j_ with
    | zero =>
      intro k hk90  
      replace hk90 : k = pop S.ac := hk90
      subst hk90
      have hpac := pop_le S.ac
      refine ev_b bX7_missing_90_92 (lv' := [(8, .int (nI (pop S.ac - (pop S.ac)))), (6, .long (lN (t ^ (pop S.ac)))), (0, .ref 0), (1, .int (nI (b))), (2, .int (nI (t))), (3, .int (nI (0))), (4, .long (0))]) (st' := [.int (nI (pop S.ac - (pop S.ac)))]) (w2 := modW 0 S X K) rfl ?_
      refine ev_if_le_n (tgt := 108) (by omega) dX7_missing_92 (by decide) (fun h92 => ?_) (fun h92 => (by exfalso; omega))
      refine ev_b bX7_missing_108_114 (lv' := [(8, .int (nI (S.ac))), (6, .long (lN (t ^ (pop S.ac)))), (0, .ref 0), (1, .int (nI (b))), (2, .int (nI (t))), (3, .int (nI (0))), (4, .long (0))]) (st' := []) (w2 := modW 0 S X K) rfl ?_
      have L114 : ∀ (j_ k : Nat), k + j_ = 1024 → ∀ (m u : Nat) (X1 : ModN), (MOK S X1 ∧ XK X1 X ∧ andn m S.ac = 0 ∧ m + k ≤ 1023 ∧ u + abTo S b t (m + 1) = abTo S b t 1024) → Ev l E mX7_missing (5) 0 0 (modW 0 S X K) (MP S K (X.lt) (X.ty) (X.rr) (X.rn) (X.rf) (some (.long (lN (frN (abTo S b t 1024) (t ^ pop S.ac) 0))))) 0 0 114 [(8, .int (nI (m))), (4, .long (lN u)), (0, .ref 0), (1, .int (nI (b))), (2, .int (nI (t))), (3, .int (nI (0))), (6, .long (lN (t ^ (pop S.ac))))] [] (modW 0 S X1 K) := by
        intro j_
        induction j_ with
        | zero =>
          intro k hk114 m u X1 hinv114
          replace hk114 : k = 1024 := hk114
          exfalso; omega
        | succ j_ ih114 =>
          intro k hk114 m u X1 hinv114
          have hlt114 : k < 1024 := by omega
          have hm1 := hinv114.2.2.2.1
          have hpm := pop_le m
          refine ev_b bX7_missing_114_116 (lv' := [(8, .int (nI (m))), (4, .long (lN u)), (0, .ref 0), (1, .int (nI (b))), (2, .int (nI (t))), (3, .int (nI (0))), (6, .long (lN (t ^ (pop S.ac))))]) (st' := [.int (nI (m))]) (w2 := modW 0 S X1 K) rfl ?_
          refine ev_if_eq_n (tgt := 186) (by omega) dX7_missing_116 (by decide) (fun h116 => ?_) (fun h116 => ?_)
          · skip
            have hu : u = abTo S b t 1024 := by
              have h9 := hinv114.2.2.2.2
              rw [h116, Nat.zero_add, ab_one hS, Nat.add_zero] at h9
              exact h9
            have hub : u < big := by rw [hu]; exact ab_big ht.2
            refine ev_b bX7_missing_186_191 (lv' := [(8, .int (nI (m))), (4, .long (lN u)), (0, .ref 0), (1, .int (nI (b))), (2, .int (nI (t))), (3, .int (nI (0))), (6, .long (lN (t ^ (pop S.ac))))]) (st' := [.int (nI (0)), .long (lN (t ^ (pop S.ac))), .long (lN u)]) (w2 := modW 0 S X1 K) rfl ?_
            refine ev_callS (Yc := mX7_partOf) [] dX7_missing_191 tw_1287 kX7_partOf (m_X7_partOf_0 u (t ^ pop S.ac) hub (pw_big ht.2 (pop_le S.ac)) (by have := Nat.pow_pos (n := pop S.ac) (show 0 < t by omega); omega)) rfl (st := []) rfl (by decide) rfl (by decide) (Nat.le_of_ble_eq_true rfl) (Nat.le_refl _) (Nat.le_refl _) (fun r w' h => by obtain ⟨-, rfl⟩ := h; exact Nat.le_of_ble_eq_true rfl) ?_
            rintro _ _ ⟨rfl, rfl⟩
            refine ev_eq (lv' := [(8, .int (nI (m))), (4, .long (lN u)), (0, .ref 0), (1, .int (nI (b))), (2, .int (nI (t))), (3, .int (nI (0))), (6, .long (lN (t ^ (pop S.ac))))]) (st' := [.long (lN (frN u (t ^ pop S.ac) 0))]) (w' := modW 0 S X1 K) rfl rfl rfl ?_
            exact ev_lret dX7_missing_194 rfl mod_le (Nat.le_refl _) (Nat.le_refl _) ⟨by rw [hu], X1, rfl, hinv114.1, hinv114.2.1⟩
          · skip
            refine ev_b bX7_missing_119_122 (lv' := [(8, .int (nI (m))), (4, .long (lN u)), (0, .ref 0), (1, .int (nI (b))), (2, .int (nI (t))), (3, .int (nI (0))), (6, .long (lN (t ^ (pop S.ac))))]) (st' := [.int (nI (m)), .ref 0]) (w2 := modW 0 S X1 K) rfl ?_
            refine ev_callM (Yc := mX7_winnersOf) (st := []) dX7_missing_122 tw_1108 kX7_winnersOf (m_X7_winnersOf_g S S.kd S.fg X1 K m hS (kf_self hinv114.1.1) hinv114.1.2 (by omega)) rfl rfl rfl rfl (by decide) (Nat.le_of_ble_eq_true rfl) (Nat.le_refl _) (Nat.le_refl _) (fun r w' h => by obtain ⟨-, wo, ta, ow, rfl, -⟩ := h; exact mod_eq) ?_
            rintro _ _ ⟨rfl, wo, ta, ow, rfl, hT⟩
            refine ev_eq (lv' := [(8, .int (nI (m))), (4, .long (lN u)), (0, .ref 0), (1, .int (nI (b))), (2, .int (nI (t))), (3, .int (nI (0))), (6, .long (lN (t ^ (pop S.ac))))]) (st' := [.int (nI (winB S m))]) (w' := modW 0 S ((X1.rf, wo, ta, ow, 0, X1.sh, X1.lt, X1.ty, X1.pl, X1.nu, X1.od, X1.tt, X1.oo, X1.on, X1.wn, X1.pd, X1.li, X1.rr, X1.rn, X1.dr) : ModN) K) rfl rfl rfl ?_
            have hwm := winB_lt hS m
            refine ev_b bX7_missing_125_126 (lv' := [(8, .int (nI (m))), (4, .long (lN u)), (0, .ref 0), (1, .int (nI (b))), (2, .int (nI (t))), (3, .int (nI (0))), (6, .long (lN (t ^ (pop S.ac))))]) (st' := [.int (nI (b)), .int (nI (winB S m))]) (w2 := modW 0 S ((X1.rf, wo, ta, ow, 0, X1.sh, X1.lt, X1.ty, X1.pl, X1.nu, X1.od, X1.tt, X1.oo, X1.on, X1.wn, X1.pd, X1.li, X1.rr, X1.rn, X1.dr) : ModN) K) rfl ?_
            refine ev_callS (Yc := mX7_has) [] dX7_missing_126 tw_1057 kX7_has (m_X7_has (winB S m) b (by omega) (by omega)) rfl (st := []) rfl (by decide) rfl (by decide) (Nat.le_of_ble_eq_true rfl) (Nat.le_refl _) (Nat.le_refl _) (fun r w' h => by obtain ⟨-, rfl⟩ := h; exact Nat.le_of_ble_eq_true rfl) ?_
            rintro _ _ ⟨rfl, rfl⟩
            refine ev_eq (lv' := [(8, .int (nI (m))), (4, .long (lN u)), (0, .ref 0), (1, .int (nI (b))), (2, .int (nI (t))), (3, .int (nI (0))), (6, .long (lN (t ^ (pop S.ac))))]) (st' := [.int (nI (b01 ((winB S m).testBit b = true)))]) (w' := modW 0 S ((X1.rf, wo, ta, ow, 0, X1.sh, X1.lt, X1.ty, X1.pl, X1.nu, X1.od, X1.tt, X1.oo, X1.on, X1.wn, X1.pd, X1.li, X1.rr, X1.rn, X1.dr) : ModN) K) rfl rfl rfl ?_
            refine ev_ifne_b (tgt := 135) dX7_missing_129 (by decide) (fun h129 => ?_) (fun h129 => ?_)
            · skip
              have hnext : u + (t - 1) ^ pop m + abTo S b t (((m - 1) &&& S.ac) + 1) = abTo S b t 1024 := by
                have h9 := hinv114.2.2.2.2
                rw [abTo_s, if_pos ⟨hinv114.2.2.1, h129⟩, ab_gap hinv114.2.2.1 h116] at h9
                omega
              refine ev_b bX7_missing_135_140 (lv' := [(9, .long (1)), (8, .int (nI (m))), (4, .long (lN u)), (0, .ref 0), (1, .int (nI (b))), (2, .int (nI (t))), (3, .int (nI (0))), (6, .long (lN (t ^ (pop S.ac))))]) (st' := [.int (nI (m))]) (w2 := modW 0 S ((X1.rf, wo, ta, ow, 0, X1.sh, X1.lt, X1.ty, X1.pl, X1.nu, X1.od, X1.tt, X1.oo, X1.on, X1.wn, X1.pd, X1.li, X1.rr, X1.rn, X1.dr) : ModN) K) rfl ?_
              refine ev_callS (Yc := mX7_size) [] dX7_missing_140 tw_1132 kX7_size (m_X7_size m (by omega)) rfl (st := []) rfl (by decide) rfl (by decide) (Nat.le_of_ble_eq_true rfl) (Nat.le_refl _) (Nat.le_refl _) (fun r w' h => by obtain ⟨-, rfl⟩ := h; exact Nat.le_of_ble_eq_true rfl) ?_
              rintro _ _ ⟨rfl, rfl⟩
              refine ev_eq (lv' := [(9, .long (1)), (8, .int (nI (m))), (4, .long (lN u)), (0, .ref 0), (1, .int (nI (b))), (2, .int (nI (t))), (3, .int (nI (0))), (6, .long (lN (t ^ (pop S.ac))))]) (st' := [.int (nI (pop m))]) (w' := modW 0 S ((X1.rf, wo, ta, ow, 0, X1.sh, X1.lt, X1.ty, X1.pl, X1.nu, X1.od, X1.tt, X1.oo, X1.on, X1.wn, X1.pd, X1.li, X1.rr, X1.rn, X1.dr) : ModN) K) rfl rfl rfl ?_
              refine ev_b bX7_missing_143_145 (lv' := [(11, .int (nI (pop m))), (9, .long (1)), (8, .int (nI (m))), (4, .long (lN u)), (0, .ref 0), (1, .int (nI (b))), (2, .int (nI (t))), (3, .int (nI (0))), (6, .long (lN (t ^ (pop S.ac))))]) (st' := []) (w2 := modW 0 S ((X1.rf, wo, ta, ow, 0, X1.sh, X1.lt, X1.ty, X1.pl, X1.nu, X1.od, X1.tt, X1.oo, X1.on, X1.wn, X1.pd, X1.li, X1.rr, X1.rn, X1.dr) : ModN) K) rfl ?_
              have L145 : ∀ (j_ j : Nat), j + j_ = pop m → Ev l E mX7_missing (5) 0 0 (modW 0 S X K) (MP S K (X.lt) (X.ty) (X.rr) (X.rn) (X.rf) (some (.long (lN (frN (abTo S b t 1024) (t ^ pop S.ac) 0))))) 0 0 145 [(11, .int (nI (pop m - j))), (9, .long (lN ((t - 1) ^ j))), (0, .ref 0), (1, .int (nI (b))), (2, .int (nI (t))), (3, .int (nI (0))), (4, .long (lN u)), (6, .long (lN (t ^ (pop S.ac)))), (8, .int (nI (m)))] [] (modW 0 S ((X1.rf, wo, ta, ow, 0, X1.sh, X1.lt, X1.ty, X1.pl, X1.nu, X1.od, X1.tt, X1.oo, X1.on, X1.wn, X1.pd, X1.li, X1.rr, X1.rn, X1.dr) : ModN) K) := by
                intro j_
                induction j_ with
                | zero =>
                  intro j hk145  
                  replace hk145 : j = pop m := hk145
                  refine ev_b bX7_missing_145_147 (lv' := [(11, .int (nI (pop m - j))), (9, .long (lN ((t - 1) ^ j))), (0, .ref 0), (1, .int (nI (b))), (2, .int (nI (t))), (3, .int (nI (0))), (4, .long (lN u)), (6, .long (lN (t ^ (pop S.ac)))), (8, .int (nI (m)))]) (st' := [.int (nI (pop m - j))]) (w2 := modW 0 S ((X1.rf, wo, ta, ow, 0, X1.sh, X1.lt, X1.ty, X1.pl, X1.nu, X1.od, X1.tt, X1.oo, X1.on, X1.wn, X1.pd, X1.li, X1.rr, X1.rn, X1.dr) : ModN) K) rfl ?_
                  refine ev_if_le_n (tgt := 165) (by omega) dX7_missing_147 (by decide) (fun h147 => ?_) (fun h147 => (by exfalso; omega))
                  refine ev_b bX7_missing_165_170 (lv' := [(11, .int (nI (pop m - j))), (9, .long (lN ((t - 1) ^ j))), (0, .ref 0), (1, .int (nI (b))), (2, .int (nI (t))), (3, .int (nI (0))), (4, .long (lN u)), (6, .long (lN (t ^ (pop S.ac)))), (8, .int (nI (m)))]) (st' := [.long ((lN u) + (lN ((t - 1) ^ j)))]) (w2 := modW 0 S ((X1.rf, wo, ta, ow, 0, X1.sh, X1.lt, X1.ty, X1.pl, X1.nu, X1.od, X1.tt, X1.oo, X1.on, X1.wn, X1.pd, X1.li, X1.rr, X1.rn, X1.dr) : ModN) K) rfl ?_
                  refine ev_topL (y := lN (u + (t - 1) ^ pop m)) (by rw [lN_add, hk145]) ?_
                  refine ev_b bX7_missing_170_175 (lv' := [(4, .long (lN (u + (t - 1) ^ pop m))), (11, .int (nI (pop m - j))), (9, .long (lN ((t - 1) ^ j))), (0, .ref 0), (1, .int (nI (b))), (2, .int (nI (t))), (3, .int (nI (0))), (6, .long (lN (t ^ (pop S.ac)))), (8, .int (nI (m)))]) (st' := [.int (nI (1)), .int (nI (m))]) (w2 := modW 0 S ((X1.rf, wo, ta, ow, 0, X1.sh, X1.lt, X1.ty, X1.pl, X1.nu, X1.od, X1.tt, X1.oo, X1.on, X1.wn, X1.pd, X1.li, X1.rr, X1.rn, X1.dr) : ModN) K) rfl ?_
                  refine ev_isub_n (by omega) dX7_missing_175 ?_
                  refine ev_b bX7_missing_176_180 (lv' := [(4, .long (lN (u + (t - 1) ^ pop m))), (11, .int (nI (pop m - j))), (9, .long (lN ((t - 1) ^ j))), (0, .ref 0), (1, .int (nI (b))), (2, .int (nI (t))), (3, .int (nI (0))), (6, .long (lN (t ^ (pop S.ac)))), (8, .int (nI (m)))]) (st' := [.int (nI (S.ac)), .int (nI (m - 1))]) (w2 := modW 0 S ((X1.rf, wo, ta, ow, 0, X1.sh, X1.lt, X1.ty, X1.pl, X1.nu, X1.od, X1.tt, X1.oo, X1.on, X1.wn, X1.pd, X1.li, X1.rr, X1.rn, X1.dr) : ModN) K) rfl ?_
                  refine ev_iand_n dX7_missing_180 ?_
                  refine ev_b bX7_missing_181_114 (lv' := [(8, .int (nI ((m - 1) &&& S.ac))), (4, .long (lN (u + (t - 1) ^ pop m))), (11, .int (nI (pop m - j))), (9, .long (lN ((t - 1) ^ j))), (0, .ref 0), (1, .int (nI (b))), (2, .int (nI (t))), (3, .int (nI (0))), (6, .long (lN (t ^ (pop S.ac))))]) (st' := []) (w2 := modW 0 S ((X1.rf, wo, ta, ow, 0, X1.sh, X1.lt, X1.ty, X1.pl, X1.nu, X1.od, X1.tt, X1.oo, X1.on, X1.wn, X1.pd, X1.li, X1.rr, X1.rn, X1.dr) : ModN) K) rfl ?_
                  refine ev_pick (lv' := [(8, .int (nI ((m - 1) &&& S.ac))), (4, .long (lN (u + (t - 1) ^ pop m))), (0, .ref 0), (1, .int (nI (b))), (2, .int (nI (t))), (3, .int (nI (0))), (6, .long (lN (t ^ (pop S.ac))))]) rfl ?_
                  exact ih114 (k + 1) (by omega) _ _ _ ⟨mok_fresh hinv114.1.1 rfl hT, hinv114.2.1, sub_and _ _, by have := Nat.and_le_left (n := m - 1) (m := S.ac); omega, hnext⟩
                | succ j_ ih145 =>
                  intro j hk145  
                  have hlt145 : j < pop m := by omega
                  refine ev_b bX7_missing_145_147 (lv' := [(11, .int (nI (pop m - j))), (9, .long (lN ((t - 1) ^ j))), (0, .ref 0), (1, .int (nI (b))), (2, .int (nI (t))), (3, .int (nI (0))), (4, .long (lN u)), (6, .long (lN (t ^ (pop S.ac)))), (8, .int (nI (m)))]) (st' := [.int (nI (pop m - j))]) (w2 := modW 0 S ((X1.rf, wo, ta, ow, 0, X1.sh, X1.lt, X1.ty, X1.pl, X1.nu, X1.od, X1.tt, X1.oo, X1.on, X1.wn, X1.pd, X1.li, X1.rr, X1.rn, X1.dr) : ModN) K) rfl ?_
                  refine ev_if_le_n (tgt := 165) (by omega) dX7_missing_147 (by decide) (fun h147 => (by exfalso; omega)) (fun h147 => ?_)
                  refine ev_b bX7_missing_150_154 (lv' := [(11, .int (nI (pop m - j))), (9, .long (lN ((t - 1) ^ j))), (0, .ref 0), (1, .int (nI (b))), (2, .int (nI (t))), (3, .int (nI (0))), (4, .long (lN u)), (6, .long (lN (t ^ (pop S.ac)))), (8, .int (nI (m)))]) (st' := [.int (nI (1)), .int (nI (t)), .long (lN ((t - 1) ^ j))]) (w2 := modW 0 S ((X1.rf, wo, ta, ow, 0, X1.sh, X1.lt, X1.ty, X1.pl, X1.nu, X1.od, X1.tt, X1.oo, X1.on, X1.wn, X1.pd, X1.li, X1.rr, X1.rn, X1.dr) : ModN) K) rfl ?_
                  refine ev_isub_n (by omega) dX7_missing_154 ?_
                  refine ev_b bX7_missing_155_156 (lv' := [(11, .int (nI (pop m - j))), (9, .long (lN ((t - 1) ^ j))), (0, .ref 0), (1, .int (nI (b))), (2, .int (nI (t))), (3, .int (nI (0))), (4, .long (lN u)), (6, .long (lN (t ^ (pop S.ac)))), (8, .int (nI (m)))]) (st' := [.long (Int32.toInt64 ((nI (t - 1)))), .long (lN ((t - 1) ^ j))]) (w2 := modW 0 S ((X1.rf, wo, ta, ow, 0, X1.sh, X1.lt, X1.ty, X1.pl, X1.nu, X1.od, X1.tt, X1.oo, X1.on, X1.wn, X1.pd, X1.li, X1.rr, X1.rn, X1.dr) : ModN) K) rfl ?_
                  refine ev_topL (y := lN (t - 1)) (by exact nI_lN (by omega)) ?_
                  refine ev_b bX7_missing_156_157 (lv' := [(11, .int (nI (pop m - j))), (9, .long (lN ((t - 1) ^ j))), (0, .ref 0), (1, .int (nI (b))), (2, .int (nI (t))), (3, .int (nI (0))), (4, .long (lN u)), (6, .long (lN (t ^ (pop S.ac)))), (8, .int (nI (m)))]) (st' := [.long ((lN ((t - 1) ^ j)) * (lN (t - 1)))]) (w2 := modW 0 S ((X1.rf, wo, ta, ow, 0, X1.sh, X1.lt, X1.ty, X1.pl, X1.nu, X1.od, X1.tt, X1.oo, X1.on, X1.wn, X1.pd, X1.li, X1.rr, X1.rn, X1.dr) : ModN) K) rfl ?_
                  refine ev_topL (y := lN ((t - 1) ^ (j + 1))) (by rw [lN_mul, Nat.pow_succ]) ?_
                  refine ev_b bX7_missing_157_159 (lv' := [(9, .long (lN ((t - 1) ^ (j + 1)))), (11, .int (nI (pop m - j))), (0, .ref 0), (1, .int (nI (b))), (2, .int (nI (t))), (3, .int (nI (0))), (4, .long (lN u)), (6, .long (lN (t ^ (pop S.ac)))), (8, .int (nI (m)))]) (st' := []) (w2 := modW 0 S ((X1.rf, wo, ta, ow, 0, X1.sh, X1.lt, X1.ty, X1.pl, X1.nu, X1.od, X1.tt, X1.oo, X1.on, X1.wn, X1.pd, X1.li, X1.rr, X1.rn, X1.dr) : ModN) K) rfl ?_
                  refine ev_idec_n (x := pop m - j) dX7_missing_159 rfl (by decide) (by omega) ?_
                  refine ev_eq (lv' := [(11, .int (nI ((pop m - j) - 1))), (9, .long (lN ((t - 1) ^ (j + 1)))), (0, .ref 0), (1, .int (nI (b))), (2, .int (nI (t))), (3, .int (nI (0))), (4, .long (lN u)), (6, .long (lN (t ^ (pop S.ac)))), (8, .int (nI (m)))]) rfl rfl rfl ?_
                  refine ev_b bX7_missing_162_145 (lv' := [(11, .int (nI ((pop m - j) - 1))), (9, .long (lN ((t - 1) ^ (j + 1)))), (0, .ref 0), (1, .int (nI (b))), (2, .int (nI (t))), (3, .int (nI (0))), (4, .long (lN u)), (6, .long (lN (t ^ (pop S.ac)))), (8, .int (nI (m)))]) (st' := []) (w2 := modW 0 S ((X1.rf, wo, ta, ow, 0, X1.sh, X1.lt, X1.ty, X1.pl, X1.nu, X1.od, X1.tt, X1.oo, X1.on, X1.wn, X1.pd, X1.li, X1.rr, X1.rn, X1.dr) : ModN) K) rfl ?_
                  rw [show nI ((pop m - j) - 1) = nI (pop m - (j + 1)) from congrArg nI (by omega)]
                  exact ih145 (j + 1) (by omega) 
              refine ev_pick (lv' := [(11, .int (nI (pop m))), (9, .long (1)), (0, .ref 0), (1, .int (nI (b))), (2, .int (nI (t))), (3, .int (nI (0))), (4, .long (lN u)), (6, .long (lN (t ^ (pop S.ac)))), (8, .int (nI (m)))]) rfl ?_
              rw [show nI (pop m) = nI (pop m - 0) from congrArg nI (by omega)]
              rw [show (.long (1) : Value) = .long (lN ((t - 1) ^ 0)) from by exact congrArg Value.long (show (1 : Int64) = lN 1 from by decide)]
              exact L145 (pop m) 0 (by omega) 
            · skip
              have hnext : u + abTo S b t (((m - 1) &&& S.ac) + 1) = abTo S b t 1024 := by
                have h9 := hinv114.2.2.2.2
                rw [abTo_s, if_neg (fun z => h129 z.2), Nat.add_zero, ab_gap hinv114.2.2.1 h116] at h9
                exact h9
              refine ev_b bX7_missing_132_175 (lv' := [(8, .int (nI (m))), (4, .long (lN u)), (0, .ref 0), (1, .int (nI (b))), (2, .int (nI (t))), (3, .int (nI (0))), (6, .long (lN (t ^ (pop S.ac))))]) (st' := [.int (nI (1)), .int (nI (m))]) (w2 := modW 0 S ((X1.rf, wo, ta, ow, 0, X1.sh, X1.lt, X1.ty, X1.pl, X1.nu, X1.od, X1.tt, X1.oo, X1.on, X1.wn, X1.pd, X1.li, X1.rr, X1.rn, X1.dr) : ModN) K) rfl ?_
              refine ev_isub_n (by omega) dX7_missing_175 ?_
              refine ev_b bX7_missing_176_180 (lv' := [(8, .int (nI (m))), (4, .long (lN u)), (0, .ref 0), (1, .int (nI (b))), (2, .int (nI (t))), (3, .int (nI (0))), (6, .long (lN (t ^ (pop S.ac))))]) (st' := [.int (nI (S.ac)), .int (nI (m - 1))]) (w2 := modW 0 S ((X1.rf, wo, ta, ow, 0, X1.sh, X1.lt, X1.ty, X1.pl, X1.nu, X1.od, X1.tt, X1.oo, X1.on, X1.wn, X1.pd, X1.li, X1.rr, X1.rn, X1.dr) : ModN) K) rfl ?_
              refine ev_iand_n dX7_missing_180 ?_
              refine ev_b bX7_missing_181_114 (lv' := [(8, .int (nI ((m - 1) &&& S.ac))), (4, .long (lN u)), (0, .ref 0), (1, .int (nI (b))), (2, .int (nI (t))), (3, .int (nI (0))), (6, .long (lN (t ^ (pop S.ac))))]) (st' := []) (w2 := modW 0 S ((X1.rf, wo, ta, ow, 0, X1.sh, X1.lt, X1.ty, X1.pl, X1.nu, X1.od, X1.tt, X1.oo, X1.on, X1.wn, X1.pd, X1.li, X1.rr, X1.rn, X1.dr) : ModN) K) rfl ?_
              exact ih114 (k + 1) (by omega) _ _ _ ⟨mok_fresh hinv114.1.1 rfl hT, hinv114.2.1, sub_and _ _, by have := Nat.and_le_left (n := m - 1) (m := S.ac); omega, hnext⟩
      refine ev_pick (lv' := [(8, .int (nI (S.ac))), (4, .long (0)), (0, .ref 0), (1, .int (nI (b))), (2, .int (nI (t))), (3, .int (nI (0))), (6, .long (lN (t ^ (pop S.ac))))]) rfl ?_
      exact L114 1024 0 (by omega) S.ac 0 X ⟨hM, xk_self X, sub_and2 _, by have := hS.2.1; omega, by rw [Nat.zero_add]; exact ab_top hS⟩
    | succ j_ ih90 =>
      intro k hk90  
      have hlt90 : k < pop S.ac := by omega
      have hpac := pop_le S.ac
      refine ev_b bX7_missing_90_92 (lv' := [(8, .int (nI (pop S.ac - k))), (6, .long (lN (t ^ k))), (0, .ref 0), (1, .int (nI (b))), (2, .int (nI (t))), (3, .int (nI (0))), (4, .long (0))]) (st' := [.int (nI (pop S.ac - k))]) (w2 := modW 0 S X K) rfl ?_
      refine ev_if_le_n (tgt := 108) (by omega) dX7_missing_92 (by decide) (fun h92 => (by exfalso; omega)) (fun h92 => ?_)
      refine ev_b bX7_missing_95_99 (lv' := [(8, .int (nI (pop S.ac - k))), (6, .long (lN (t ^ k))), (0, .ref 0), (1, .int (nI (b))), (2, .int (nI (t))), (3, .int (nI (0))), (4, .long (0))]) (st' := [.long (Int32.toInt64 ((nI (t)))), .long (lN (t ^ k))]) (w2 := modW 0 S X K) rfl ?_
      refine ev_topL (y := lN t) (by exact nI_lN (by omega)) ?_
      refine ev_b bX7_missing_99_100 (lv' := [(8, .int (nI (pop S.ac - k))), (6, .long (lN (t ^ k))), (0, .ref 0), (1, .int (nI (b))), (2, .int (nI (t))), (3, .int (nI (0))), (4, .long (0))]) (st' := [.long ((lN (t ^ k)) * (lN t))]) (w2 := modW 0 S X K) rfl ?_
      refine ev_topL (y := lN (t ^ (k + 1))) (by rw [lN_mul, Nat.pow_succ]) ?_
      refine ev_b bX7_missing_100_102 (lv' := [(6, .long (lN (t ^ (k + 1)))), (8, .int (nI (pop S.ac - k))), (0, .ref 0), (1, .int (nI (b))), (2, .int (nI (t))), (3, .int (nI (0))), (4, .long (0))]) (st' := []) (w2 := modW 0 S X K) rfl ?_
      refine ev_idec_n (x := pop S.ac - k) dX7_missing_102 rfl (by decide) (by omega) ?_
      refine ev_eq (lv' := [(8, .int (nI ((pop S.ac - k) - 1))), (6, .long (lN (t ^ (k + 1)))), (0, .ref 0), (1, .int (nI (b))), (2, .int (nI (t))), (3, .int (nI (0))), (4, .long (0))]) rfl rfl rfl ?_
      refine ev_b bX7_missing_105_90 (lv' := [(8, .int (nI ((pop S.ac - k) - 1))), (6, .long (lN (t ^ (k + 1)))), (0, .ref 0), (1, .int (nI (b))), (2, .int (nI (t))), (3, .int (nI (0))), (4, .long (0))]) (st' := []) (w2 := modW 0 S X K) rfl ?_
      rw [show nI ((pop S.ac - k) - 1) = nI (pop S.ac - (k + 1)) from congrArg nI (by omega)]
      exact ih90 (k + 1) (by omega) 
  refine ev_pick (lv' := [(8, .int (nI (pop S.ac))), (6, .long (1)), (0, .ref 0), (1, .int (nI (b))), (2, .int (nI (t))), (3, .int (nI (0))), (4, .long (0))]) rfl ?_
  rw [show nI (pop S.ac) = nI (pop S.ac - 0) from congrArg nI (by omega)]
  rw [show (.long (1) : Value) = .long (lN (t ^ 0)) from by exact congrArg Value.long (show (1 : Int64) = lN 1 from by decide)]
  exact L90 (pop S.ac) 0 (by omega) 
set_option maxHeartbeats 4000000 in
set_option maxRecDepth 100000 in
theorem q_missing_w1 {l : Launch} {E : XE} (S : SaleN) (X : ModN) (K : Option (Nat → Nat)) (b t : Nat) (hS : SaleOK S) (hM : MOK S X) (hb : b < S.ca) (ht : 2 ≤ t ∧ t ≤ 20) : MetE l E mX7_missing (5) 0 0 [.ref 0, .int (nI (b)), .int (nI (t)), .int (nI (1))] (modW 0 S X K) (MP S K (X.lt) (X.ty) (X.rr) (X.rn) (X.rf) (some (.long (lN (frN (abTo S b t 1024) (t ^ pop S.ac) 1))))) := by
  refine MetE.of (by decide +kernel) (Nat.le_of_ble_eq_true rfl) ?_
  have hca := hS.1
  have hpw := pow_ca hS
  have hac := ac_lt hS
  have hshl := shl_le hS
  
  refine ev_eq (lv' := [(0, .ref 0), (1, .int (nI (b))), (2, .int (nI (t))), (3, .int (nI (1)))]) (st' := []) (w' := modW 0 S X K) rfl rfl rfl ?_
  refine ev_b bX7_missing_0_2 (lv' := [(0, .ref 0), (1, .int (nI (b))), (2, .int (nI (t))), (3, .int (nI (1)))]) (st' := [.int (nI (b)), .ref 0]) (w2 := modW 0 S X K) rfl ?_
  refine ev_callM (Yc := mX7_isBid) (st := []) dX7_missing_2 tw_1084 kX7_isBid (m_X7_isBid_n S X K b hca (by omega)) rfl rfl rfl rfl (by decide) (Nat.le_of_ble_eq_true rfl) (Nat.le_refl _) (Nat.le_refl _) (fun r w' h => by obtain ⟨-, rfl⟩ := h; exact mod_eq) ?_
  rintro _ _ ⟨rfl, rfl⟩
  refine ev_eq (lv' := [(0, .ref 0), (1, .int (nI (b))), (2, .int (nI (t))), (3, .int (nI (1)))]) (st' := [.int (nI (b01 (b < S.ca)))]) (w' := modW 0 S X K) rfl rfl rfl ?_
  refine ev_ifne_b (tgt := 19) dX7_missing_5 (by decide) (fun h5 => ?_) (fun h5 => (by exfalso; omega))
  refine ev_b bX7_missing_19_21 (lv' := [(0, .ref 0), (1, .int (nI (b))), (2, .int (nI (t))), (3, .int (nI (1)))]) (st' := [.int (nI (2)), .int (nI (t))]) (w2 := modW 0 S X K) rfl ?_
  refine ev_icmp_ge_n (tgt := 36) (by omega) (by decide) dX7_missing_21 (by decide) (fun h21 => ?_) (fun h21 => (by exfalso; omega))
  refine ev_b bX7_missing_36_39 (lv' := [(0, .ref 0), (1, .int (nI (b))), (2, .int (nI (t))), (3, .int (nI (1)))]) (st' := [.int (nI (20)), .int (nI (t))]) (w2 := modW 0 S X K) rfl ?_
  refine ev_icmp_le_n (tgt := 54) (by omega) (by decide) dX7_missing_39 (by decide) (fun h39 => ?_) (fun h39 => (by exfalso; omega))
  refine ev_b bX7_missing_54_57 (lv' := [(0, .ref 0), (1, .int (nI (b))), (2, .int (nI (t))), (3, .int (nI (1)))]) (st' := [.int (nI (1)), .int (nI (0)), .int (nI (1))]) (w2 := modW 0 S X K) rfl ?_
  refine ev_callS (Yc := mX7_isIn) [] dX7_missing_57 tw_1036 kX7_isIn (m_X7_isIn_n 1 0 1 (by decide) (by decide) (by decide)) rfl (st := []) rfl (by decide) rfl (by decide) (Nat.le_of_ble_eq_true rfl) (Nat.le_refl _) (Nat.le_refl _) (fun r w' h => by obtain ⟨-, rfl⟩ := h; exact Nat.le_of_ble_eq_true rfl) ?_
  rintro _ _ ⟨rfl, rfl⟩
  refine ev_eq (lv' := [(0, .ref 0), (1, .int (nI (b))), (2, .int (nI (t))), (3, .int (nI (1)))]) (st' := [.int (nI (b01 (0 ≤ 1 ∧ 1 ≤ 1)))]) (w' := modW 0 S X K) rfl rfl rfl ?_
  refine ev_ifne_b (tgt := 75) dX7_missing_60 (by decide) (fun h60 => ?_) (fun h60 => (by exfalso; omega))
  refine ev_b bX7_missing_75_78 (lv' := [(4, .long (0)), (0, .ref 0), (1, .int (nI (b))), (2, .int (nI (t))), (3, .int (nI (1)))]) (st' := []) (w2 := modW 0 S X K) rfl ?_
  skip
  refine ev_b bX7_missing_78_85 (lv' := [(6, .long (1)), (4, .long (0)), (0, .ref 0), (1, .int (nI (b))), (2, .int (nI (t))), (3, .int (nI (1)))]) (st' := [.int (nI (S.ac))]) (w2 := modW 0 S X K) rfl ?_
  refine ev_callS (Yc := mX7_size) [] dX7_missing_85 tw_1132 kX7_size (m_X7_size S.ac (by have := hS.2.1; omega)) rfl (st := []) rfl (by decide) rfl (by decide) (Nat.le_of_ble_eq_true rfl) (Nat.le_refl _) (Nat.le_refl _) (fun r w' h => by obtain ⟨-, rfl⟩ := h; exact Nat.le_of_ble_eq_true rfl) ?_
  rintro _ _ ⟨rfl, rfl⟩
  refine ev_eq (lv' := [(6, .long (1)), (4, .long (0)), (0, .ref 0), (1, .int (nI (b))), (2, .int (nI (t))), (3, .int (nI (1)))]) (st' := [.int (nI (pop S.ac))]) (w' := modW 0 S X K) rfl rfl rfl ?_
  refine ev_b bX7_missing_88_90 (lv' := [(8, .int (nI (pop S.ac))), (6, .long (1)), (4, .long (0)), (0, .ref 0), (1, .int (nI (b))), (2, .int (nI (t))), (3, .int (nI (1)))]) (st' := []) (w2 := modW 0 S X K) rfl ?_
  have L90 : ∀ (j_ k : Nat), k + j_ = pop S.ac → Ev l E mX7_missing (5) 0 0 (modW 0 S X K) (MP S K (X.lt) (X.ty) (X.rr) (X.rn) (X.rf) (some (.long (lN (frN (abTo S b t 1024) (t ^ pop S.ac) 1))))) 0 0 90 [(8, .int (nI (pop S.ac - k))), (6, .long (lN (t ^ k))), (0, .ref 0), (1, .int (nI (b))), (2, .int (nI (t))), (3, .int (nI (1))), (4, .long (0))] [] (modW 0 S X K) := by
    intro j_
    induction j_ with
    | zero =>
      intro k hk90  
      replace hk90 : k = pop S.ac := hk90
      subst hk90
      have hpac := pop_le S.ac
      refine ev_b bX7_missing_90_92 (lv' := [(8, .int (nI (pop S.ac - (pop S.ac)))), (6, .long (lN (t ^ (pop S.ac)))), (0, .ref 0), (1, .int (nI (b))), (2, .int (nI (t))), (3, .int (nI (1))), (4, .long (0))]) (st' := [.int (nI (pop S.ac - (pop S.ac)))]) (w2 := modW 0 S X K) rfl ?_
      refine ev_if_le_n (tgt := 108) (by omega) dX7_missing_92 (by decide) (fun h92 => ?_) (fun h92 => (by exfalso; omega))
      refine ev_b bX7_missing_108_114 (lv' := [(8, .int (nI (S.ac))), (6, .long (lN (t ^ (pop S.ac)))), (0, .ref 0), (1, .int (nI (b))), (2, .int (nI (t))), (3, .int (nI (1))), (4, .long (0))]) (st' := []) (w2 := modW 0 S X K) rfl ?_
      have L114 : ∀ (j_ k : Nat), k + j_ = 1024 → ∀ (m u : Nat) (X1 : ModN), (MOK S X1 ∧ XK X1 X ∧ andn m S.ac = 0 ∧ m + k ≤ 1023 ∧ u + abTo S b t (m + 1) = abTo S b t 1024) → Ev l E mX7_missing (5) 0 0 (modW 0 S X K) (MP S K (X.lt) (X.ty) (X.rr) (X.rn) (X.rf) (some (.long (lN (frN (abTo S b t 1024) (t ^ pop S.ac) 1))))) 0 0 114 [(8, .int (nI (m))), (4, .long (lN u)), (0, .ref 0), (1, .int (nI (b))), (2, .int (nI (t))), (3, .int (nI (1))), (6, .long (lN (t ^ (pop S.ac))))] [] (modW 0 S X1 K) := by
        intro j_
        induction j_ with
        | zero =>
          intro k hk114 m u X1 hinv114
          replace hk114 : k = 1024 := hk114
          exfalso; omega
        | succ j_ ih114 =>
          intro k hk114 m u X1 hinv114
          have hlt114 : k < 1024 := by omega
          have hm1 := hinv114.2.2.2.1
          have hpm := pop_le m
          refine ev_b bX7_missing_114_116 (lv' := [(8, .int (nI (m))), (4, .long (lN u)), (0, .ref 0), (1, .int (nI (b))), (2, .int (nI (t))), (3, .int (nI (1))), (6, .long (lN (t ^ (pop S.ac))))]) (st' := [.int (nI (m))]) (w2 := modW 0 S X1 K) rfl ?_
          refine ev_if_eq_n (tgt := 186) (by omega) dX7_missing_116 (by decide) (fun h116 => ?_) (fun h116 => ?_)
          · skip
            have hu : u = abTo S b t 1024 := by
              have h9 := hinv114.2.2.2.2
              rw [h116, Nat.zero_add, ab_one hS, Nat.add_zero] at h9
              exact h9
            have hub : u < big := by rw [hu]; exact ab_big ht.2
            refine ev_b bX7_missing_186_191 (lv' := [(8, .int (nI (m))), (4, .long (lN u)), (0, .ref 0), (1, .int (nI (b))), (2, .int (nI (t))), (3, .int (nI (1))), (6, .long (lN (t ^ (pop S.ac))))]) (st' := [.int (nI (1)), .long (lN (t ^ (pop S.ac))), .long (lN u)]) (w2 := modW 0 S X1 K) rfl ?_
            refine ev_callS (Yc := mX7_partOf) [] dX7_missing_191 tw_1287 kX7_partOf (m_X7_partOf_1 u (t ^ pop S.ac) hub (pw_big ht.2 (pop_le S.ac)) (by have := Nat.pow_pos (n := pop S.ac) (show 0 < t by omega); omega)) rfl (st := []) rfl (by decide) rfl (by decide) (Nat.le_of_ble_eq_true rfl) (Nat.le_refl _) (Nat.le_refl _) (fun r w' h => by obtain ⟨-, rfl⟩ := h; exact Nat.le_of_ble_eq_true rfl) ?_
            rintro _ _ ⟨rfl, rfl⟩
            refine ev_eq (lv' := [(8, .int (nI (m))), (4, .long (lN u)), (0, .ref 0), (1, .int (nI (b))), (2, .int (nI (t))), (3, .int (nI (1))), (6, .long (lN (t ^ (pop S.ac))))]) (st' := [.long (lN (frN u (t ^ pop S.ac) 1))]) (w' := modW 0 S X1 K) rfl rfl rfl ?_
            exact ev_lret dX7_missing_194 rfl mod_le (Nat.le_refl _) (Nat.le_refl _) ⟨by rw [hu], X1, rfl, hinv114.1, hinv114.2.1⟩
          · skip
            refine ev_b bX7_missing_119_122 (lv' := [(8, .int (nI (m))), (4, .long (lN u)), (0, .ref 0), (1, .int (nI (b))), (2, .int (nI (t))), (3, .int (nI (1))), (6, .long (lN (t ^ (pop S.ac))))]) (st' := [.int (nI (m)), .ref 0]) (w2 := modW 0 S X1 K) rfl ?_
            refine ev_callM (Yc := mX7_winnersOf) (st := []) dX7_missing_122 tw_1108 kX7_winnersOf (m_X7_winnersOf_g S S.kd S.fg X1 K m hS (kf_self hinv114.1.1) hinv114.1.2 (by omega)) rfl rfl rfl rfl (by decide) (Nat.le_of_ble_eq_true rfl) (Nat.le_refl _) (Nat.le_refl _) (fun r w' h => by obtain ⟨-, wo, ta, ow, rfl, -⟩ := h; exact mod_eq) ?_
            rintro _ _ ⟨rfl, wo, ta, ow, rfl, hT⟩
            refine ev_eq (lv' := [(8, .int (nI (m))), (4, .long (lN u)), (0, .ref 0), (1, .int (nI (b))), (2, .int (nI (t))), (3, .int (nI (1))), (6, .long (lN (t ^ (pop S.ac))))]) (st' := [.int (nI (winB S m))]) (w' := modW 0 S ((X1.rf, wo, ta, ow, 0, X1.sh, X1.lt, X1.ty, X1.pl, X1.nu, X1.od, X1.tt, X1.oo, X1.on, X1.wn, X1.pd, X1.li, X1.rr, X1.rn, X1.dr) : ModN) K) rfl rfl rfl ?_
            have hwm := winB_lt hS m
            refine ev_b bX7_missing_125_126 (lv' := [(8, .int (nI (m))), (4, .long (lN u)), (0, .ref 0), (1, .int (nI (b))), (2, .int (nI (t))), (3, .int (nI (1))), (6, .long (lN (t ^ (pop S.ac))))]) (st' := [.int (nI (b)), .int (nI (winB S m))]) (w2 := modW 0 S ((X1.rf, wo, ta, ow, 0, X1.sh, X1.lt, X1.ty, X1.pl, X1.nu, X1.od, X1.tt, X1.oo, X1.on, X1.wn, X1.pd, X1.li, X1.rr, X1.rn, X1.dr) : ModN) K) rfl ?_
            refine ev_callS (Yc := mX7_has) [] dX7_missing_126 tw_1057 kX7_has (m_X7_has (winB S m) b (by omega) (by omega)) rfl (st := []) rfl (by decide) rfl (by decide) (Nat.le_of_ble_eq_true rfl) (Nat.le_refl _) (Nat.le_refl _) (fun r w' h => by obtain ⟨-, rfl⟩ := h; exact Nat.le_of_ble_eq_true rfl) ?_
            rintro _ _ ⟨rfl, rfl⟩
            refine ev_eq (lv' := [(8, .int (nI (m))), (4, .long (lN u)), (0, .ref 0), (1, .int (nI (b))), (2, .int (nI (t))), (3, .int (nI (1))), (6, .long (lN (t ^ (pop S.ac))))]) (st' := [.int (nI (b01 ((winB S m).testBit b = true)))]) (w' := modW 0 S ((X1.rf, wo, ta, ow, 0, X1.sh, X1.lt, X1.ty, X1.pl, X1.nu, X1.od, X1.tt, X1.oo, X1.on, X1.wn, X1.pd, X1.li, X1.rr, X1.rn, X1.dr) : ModN) K) rfl rfl rfl ?_
            refine ev_ifne_b (tgt := 135) dX7_missing_129 (by decide) (fun h129 => ?_) (fun h129 => ?_)
            · skip
              have hnext : u + (t - 1) ^ pop m + abTo S b t (((m - 1) &&& S.ac) + 1) = abTo S b t 1024 := by
                have h9 := hinv114.2.2.2.2
                rw [abTo_s, if_pos ⟨hinv114.2.2.1, h129⟩, ab_gap hinv114.2.2.1 h116] at h9
                omega
              refine ev_b bX7_missing_135_140 (lv' := [(9, .long (1)), (8, .int (nI (m))), (4, .long (lN u)), (0, .ref 0), (1, .int (nI (b))), (2, .int (nI (t))), (3, .int (nI (1))), (6, .long (lN (t ^ (pop S.ac))))]) (st' := [.int (nI (m))]) (w2 := modW 0 S ((X1.rf, wo, ta, ow, 0, X1.sh, X1.lt, X1.ty, X1.pl, X1.nu, X1.od, X1.tt, X1.oo, X1.on, X1.wn, X1.pd, X1.li, X1.rr, X1.rn, X1.dr) : ModN) K) rfl ?_
              refine ev_callS (Yc := mX7_size) [] dX7_missing_140 tw_1132 kX7_size (m_X7_size m (by omega)) rfl (st := []) rfl (by decide) rfl (by decide) (Nat.le_of_ble_eq_true rfl) (Nat.le_refl _) (Nat.le_refl _) (fun r w' h => by obtain ⟨-, rfl⟩ := h; exact Nat.le_of_ble_eq_true rfl) ?_
              rintro _ _ ⟨rfl, rfl⟩
              refine ev_eq (lv' := [(9, .long (1)), (8, .int (nI (m))), (4, .long (lN u)), (0, .ref 0), (1, .int (nI (b))), (2, .int (nI (t))), (3, .int (nI (1))), (6, .long (lN (t ^ (pop S.ac))))]) (st' := [.int (nI (pop m))]) (w' := modW 0 S ((X1.rf, wo, ta, ow, 0, X1.sh, X1.lt, X1.ty, X1.pl, X1.nu, X1.od, X1.tt, X1.oo, X1.on, X1.wn, X1.pd, X1.li, X1.rr, X1.rn, X1.dr) : ModN) K) rfl rfl rfl ?_
              refine ev_b bX7_missing_143_145 (lv' := [(11, .int (nI (pop m))), (9, .long (1)), (8, .int (nI (m))), (4, .long (lN u)), (0, .ref 0), (1, .int (nI (b))), (2, .int (nI (t))), (3, .int (nI (1))), (6, .long (lN (t ^ (pop S.ac))))]) (st' := []) (w2 := modW 0 S ((X1.rf, wo, ta, ow, 0, X1.sh, X1.lt, X1.ty, X1.pl, X1.nu, X1.od, X1.tt, X1.oo, X1.on, X1.wn, X1.pd, X1.li, X1.rr, X1.rn, X1.dr) : ModN) K) rfl ?_
              have L145 : ∀ (j_ j : Nat), j + j_ = pop m → Ev l E mX7_missing (5) 0 0 (modW 0 S X K) (MP S K (X.lt) (X.ty) (X.rr) (X.rn) (X.rf) (some (.long (lN (frN (abTo S b t 1024) (t ^ pop S.ac) 1))))) 0 0 145 [(11, .int (nI (pop m - j))), (9, .long (lN ((t - 1) ^ j))), (0, .ref 0), (1, .int (nI (b))), (2, .int (nI (t))), (3, .int (nI (1))), (4, .long (lN u)), (6, .long (lN (t ^ (pop S.ac)))), (8, .int (nI (m)))] [] (modW 0 S ((X1.rf, wo, ta, ow, 0, X1.sh, X1.lt, X1.ty, X1.pl, X1.nu, X1.od, X1.tt, X1.oo, X1.on, X1.wn, X1.pd, X1.li, X1.rr, X1.rn, X1.dr) : ModN) K) := by
                intro j_
                induction j_ with
                | zero =>
                  intro j hk145  
                  replace hk145 : j = pop m := hk145
                  refine ev_b bX7_missing_145_147 (lv' := [(11, .int (nI (pop m - j))), (9, .long (lN ((t - 1) ^ j))), (0, .ref 0), (1, .int (nI (b))), (2, .int (nI (t))), (3, .int (nI (1))), (4, .long (lN u)), (6, .long (lN (t ^ (pop S.ac)))), (8, .int (nI (m)))]) (st' := [.int (nI (pop m - j))]) (w2 := modW 0 S ((X1.rf, wo, ta, ow, 0, X1.sh, X1.lt, X1.ty, X1.pl, X1.nu, X1.od, X1.tt, X1.oo, X1.on, X1.wn, X1.pd, X1.li, X1.rr, X1.rn, X1.dr) : ModN) K) rfl ?_
                  refine ev_if_le_n (tgt := 165) (by omega) dX7_missing_147 (by decide) (fun h147 => ?_) (fun h147 => (by exfalso; omega))
                  refine ev_b bX7_missing_165_170 (lv' := [(11, .int (nI (pop m - j))), (9, .long (lN ((t - 1) ^ j))), (0, .ref 0), (1, .int (nI (b))), (2, .int (nI (t))), (3, .int (nI (1))), (4, .long (lN u)), (6, .long (lN (t ^ (pop S.ac)))), (8, .int (nI (m)))]) (st' := [.long ((lN u) + (lN ((t - 1) ^ j)))]) (w2 := modW 0 S ((X1.rf, wo, ta, ow, 0, X1.sh, X1.lt, X1.ty, X1.pl, X1.nu, X1.od, X1.tt, X1.oo, X1.on, X1.wn, X1.pd, X1.li, X1.rr, X1.rn, X1.dr) : ModN) K) rfl ?_
                  refine ev_topL (y := lN (u + (t - 1) ^ pop m)) (by rw [lN_add, hk145]) ?_
                  refine ev_b bX7_missing_170_175 (lv' := [(4, .long (lN (u + (t - 1) ^ pop m))), (11, .int (nI (pop m - j))), (9, .long (lN ((t - 1) ^ j))), (0, .ref 0), (1, .int (nI (b))), (2, .int (nI (t))), (3, .int (nI (1))), (6, .long (lN (t ^ (pop S.ac)))), (8, .int (nI (m)))]) (st' := [.int (nI (1)), .int (nI (m))]) (w2 := modW 0 S ((X1.rf, wo, ta, ow, 0, X1.sh, X1.lt, X1.ty, X1.pl, X1.nu, X1.od, X1.tt, X1.oo, X1.on, X1.wn, X1.pd, X1.li, X1.rr, X1.rn, X1.dr) : ModN) K) rfl ?_
                  refine ev_isub_n (by omega) dX7_missing_175 ?_
                  refine ev_b bX7_missing_176_180 (lv' := [(4, .long (lN (u + (t - 1) ^ pop m))), (11, .int (nI (pop m - j))), (9, .long (lN ((t - 1) ^ j))), (0, .ref 0), (1, .int (nI (b))), (2, .int (nI (t))), (3, .int (nI (1))), (6, .long (lN (t ^ (pop S.ac)))), (8, .int (nI (m)))]) (st' := [.int (nI (S.ac)), .int (nI (m - 1))]) (w2 := modW 0 S ((X1.rf, wo, ta, ow, 0, X1.sh, X1.lt, X1.ty, X1.pl, X1.nu, X1.od, X1.tt, X1.oo, X1.on, X1.wn, X1.pd, X1.li, X1.rr, X1.rn, X1.dr) : ModN) K) rfl ?_
                  refine ev_iand_n dX7_missing_180 ?_
                  refine ev_b bX7_missing_181_114 (lv' := [(8, .int (nI ((m - 1) &&& S.ac))), (4, .long (lN (u + (t - 1) ^ pop m))), (11, .int (nI (pop m - j))), (9, .long (lN ((t - 1) ^ j))), (0, .ref 0), (1, .int (nI (b))), (2, .int (nI (t))), (3, .int (nI (1))), (6, .long (lN (t ^ (pop S.ac))))]) (st' := []) (w2 := modW 0 S ((X1.rf, wo, ta, ow, 0, X1.sh, X1.lt, X1.ty, X1.pl, X1.nu, X1.od, X1.tt, X1.oo, X1.on, X1.wn, X1.pd, X1.li, X1.rr, X1.rn, X1.dr) : ModN) K) rfl ?_
                  refine ev_pick (lv' := [(8, .int (nI ((m - 1) &&& S.ac))), (4, .long (lN (u + (t - 1) ^ pop m))), (0, .ref 0), (1, .int (nI (b))), (2, .int (nI (t))), (3, .int (nI (1))), (6, .long (lN (t ^ (pop S.ac))))]) rfl ?_
                  exact ih114 (k + 1) (by omega) _ _ _ ⟨mok_fresh hinv114.1.1 rfl hT, hinv114.2.1, sub_and _ _, by have := Nat.and_le_left (n := m - 1) (m := S.ac); omega, hnext⟩
                | succ j_ ih145 =>
                  intro j hk145  
                  have hlt145 : j < pop m := by omega
                  refine ev_b bX7_missing_145_147 (lv' := [(11, .int (nI (pop m - j))), (9, .long (lN ((t - 1) ^ j))), (0, .ref 0), (1, .int (nI (b))), (2, .int (nI (t))), (3, .int (nI (1))), (4, .long (lN u)), (6, .long (lN (t ^ (pop S.ac)))), (8, .int (nI (m)))]) (st' := [.int (nI (pop m - j))]) (w2 := modW 0 S ((X1.rf, wo, ta, ow, 0, X1.sh, X1.lt, X1.ty, X1.pl, X1.nu, X1.od, X1.tt, X1.oo, X1.on, X1.wn, X1.pd, X1.li, X1.rr, X1.rn, X1.dr) : ModN) K) rfl ?_
                  refine ev_if_le_n (tgt := 165) (by omega) dX7_missing_147 (by decide) (fun h147 => (by exfalso; omega)) (fun h147 => ?_)
                  refine ev_b bX7_missing_150_154 (lv' := [(11, .int (nI (pop m - j))), (9, .long (lN ((t - 1) ^ j))), (0, .ref 0), (1, .int (nI (b))), (2, .int (nI (t))), (3, .int (nI (1))), (4, .long (lN u)), (6, .long (lN (t ^ (pop S.ac)))), (8, .int (nI (m)))]) (st' := [.int (nI (1)), .int (nI (t)), .long (lN ((t - 1) ^ j))]) (w2 := modW 0 S ((X1.rf, wo, ta, ow, 0, X1.sh, X1.lt, X1.ty, X1.pl, X1.nu, X1.od, X1.tt, X1.oo, X1.on, X1.wn, X1.pd, X1.li, X1.rr, X1.rn, X1.dr) : ModN) K) rfl ?_
                  refine ev_isub_n (by omega) dX7_missing_154 ?_
                  refine ev_b bX7_missing_155_156 (lv' := [(11, .int (nI (pop m - j))), (9, .long (lN ((t - 1) ^ j))), (0, .ref 0), (1, .int (nI (b))), (2, .int (nI (t))), (3, .int (nI (1))), (4, .long (lN u)), (6, .long (lN (t ^ (pop S.ac)))), (8, .int (nI (m)))]) (st' := [.long (Int32.toInt64 ((nI (t - 1)))), .long (lN ((t - 1) ^ j))]) (w2 := modW 0 S ((X1.rf, wo, ta, ow, 0, X1.sh, X1.lt, X1.ty, X1.pl, X1.nu, X1.od, X1.tt, X1.oo, X1.on, X1.wn, X1.pd, X1.li, X1.rr, X1.rn, X1.dr) : ModN) K) rfl ?_
                  refine ev_topL (y := lN (t - 1)) (by exact nI_lN (by omega)) ?_
                  refine ev_b bX7_missing_156_157 (lv' := [(11, .int (nI (pop m - j))), (9, .long (lN ((t - 1) ^ j))), (0, .ref 0), (1, .int (nI (b))), (2, .int (nI (t))), (3, .int (nI (1))), (4, .long (lN u)), (6, .long (lN (t ^ (pop S.ac)))), (8, .int (nI (m)))]) (st' := [.long ((lN ((t - 1) ^ j)) * (lN (t - 1)))]) (w2 := modW 0 S ((X1.rf, wo, ta, ow, 0, X1.sh, X1.lt, X1.ty, X1.pl, X1.nu, X1.od, X1.tt, X1.oo, X1.on, X1.wn, X1.pd, X1.li, X1.rr, X1.rn, X1.dr) : ModN) K) rfl ?_
                  refine ev_topL (y := lN ((t - 1) ^ (j + 1))) (by rw [lN_mul, Nat.pow_succ]) ?_
                  refine ev_b bX7_missing_157_159 (lv' := [(9, .long (lN ((t - 1) ^ (j + 1)))), (11, .int (nI (pop m - j))), (0, .ref 0), (1, .int (nI (b))), (2, .int (nI (t))), (3, .int (nI (1))), (4, .long (lN u)), (6, .long (lN (t ^ (pop S.ac)))), (8, .int (nI (m)))]) (st' := []) (w2 := modW 0 S ((X1.rf, wo, ta, ow, 0, X1.sh, X1.lt, X1.ty, X1.pl, X1.nu, X1.od, X1.tt, X1.oo, X1.on, X1.wn, X1.pd, X1.li, X1.rr, X1.rn, X1.dr) : ModN) K) rfl ?_
                  refine ev_idec_n (x := pop m - j) dX7_missing_159 rfl (by decide) (by omega) ?_
                  refine ev_eq (lv' := [(11, .int (nI ((pop m - j) - 1))), (9, .long (lN ((t - 1) ^ (j + 1)))), (0, .ref 0), (1, .int (nI (b))), (2, .int (nI (t))), (3, .int (nI (1))), (4, .long (lN u)), (6, .long (lN (t ^ (pop S.ac)))), (8, .int (nI (m)))]) rfl rfl rfl ?_
                  refine ev_b bX7_missing_162_145 (lv' := [(11, .int (nI ((pop m - j) - 1))), (9, .long (lN ((t - 1) ^ (j + 1)))), (0, .ref 0), (1, .int (nI (b))), (2, .int (nI (t))), (3, .int (nI (1))), (4, .long (lN u)), (6, .long (lN (t ^ (pop S.ac)))), (8, .int (nI (m)))]) (st' := []) (w2 := modW 0 S ((X1.rf, wo, ta, ow, 0, X1.sh, X1.lt, X1.ty, X1.pl, X1.nu, X1.od, X1.tt, X1.oo, X1.on, X1.wn, X1.pd, X1.li, X1.rr, X1.rn, X1.dr) : ModN) K) rfl ?_
                  rw [show nI ((pop m - j) - 1) = nI (pop m - (j + 1)) from congrArg nI (by omega)]
                  exact ih145 (j + 1) (by omega) 
              refine ev_pick (lv' := [(11, .int (nI (pop m))), (9, .long (1)), (0, .ref 0), (1, .int (nI (b))), (2, .int (nI (t))), (3, .int (nI (1))), (4, .long (lN u)), (6, .long (lN (t ^ (pop S.ac)))), (8, .int (nI (m)))]) rfl ?_
              rw [show nI (pop m) = nI (pop m - 0) from congrArg nI (by omega)]
              rw [show (.long (1) : Value) = .long (lN ((t - 1) ^ 0)) from by exact congrArg Value.long (show (1 : Int64) = lN 1 from by decide)]
              exact L145 (pop m) 0 (by omega) 
            · skip
              have hnext : u + abTo S b t (((m - 1) &&& S.ac) + 1) = abTo S b t 1024 := by
                have h9 := hinv114.2.2.2.2
                rw [abTo_s, if_neg (fun z => h129 z.2), Nat.add_zero, ab_gap hinv114.2.2.1 h116] at h9
                exact h9
              refine ev_b bX7_missing_132_175 (lv' := [(8, .int (nI (m))), (4, .long (lN u)), (0, .ref 0), (1, .int (nI (b))), (2, .int (nI (t))), (3, .int (nI (1))), (6, .long (lN (t ^ (pop S.ac))))]) (st' := [.int (nI (1)), .int (nI (m))]) (w2 := modW 0 S ((X1.rf, wo, ta, ow, 0, X1.sh, X1.lt, X1.ty, X1.pl, X1.nu, X1.od, X1.tt, X1.oo, X1.on, X1.wn, X1.pd, X1.li, X1.rr, X1.rn, X1.dr) : ModN) K) rfl ?_
              refine ev_isub_n (by omega) dX7_missing_175 ?_
              refine ev_b bX7_missing_176_180 (lv' := [(8, .int (nI (m))), (4, .long (lN u)), (0, .ref 0), (1, .int (nI (b))), (2, .int (nI (t))), (3, .int (nI (1))), (6, .long (lN (t ^ (pop S.ac))))]) (st' := [.int (nI (S.ac)), .int (nI (m - 1))]) (w2 := modW 0 S ((X1.rf, wo, ta, ow, 0, X1.sh, X1.lt, X1.ty, X1.pl, X1.nu, X1.od, X1.tt, X1.oo, X1.on, X1.wn, X1.pd, X1.li, X1.rr, X1.rn, X1.dr) : ModN) K) rfl ?_
              refine ev_iand_n dX7_missing_180 ?_
              refine ev_b bX7_missing_181_114 (lv' := [(8, .int (nI ((m - 1) &&& S.ac))), (4, .long (lN u)), (0, .ref 0), (1, .int (nI (b))), (2, .int (nI (t))), (3, .int (nI (1))), (6, .long (lN (t ^ (pop S.ac))))]) (st' := []) (w2 := modW 0 S ((X1.rf, wo, ta, ow, 0, X1.sh, X1.lt, X1.ty, X1.pl, X1.nu, X1.od, X1.tt, X1.oo, X1.on, X1.wn, X1.pd, X1.li, X1.rr, X1.rn, X1.dr) : ModN) K) rfl ?_
              exact ih114 (k + 1) (by omega) _ _ _ ⟨mok_fresh hinv114.1.1 rfl hT, hinv114.2.1, sub_and _ _, by have := Nat.and_le_left (n := m - 1) (m := S.ac); omega, hnext⟩
      refine ev_pick (lv' := [(8, .int (nI (S.ac))), (4, .long (0)), (0, .ref 0), (1, .int (nI (b))), (2, .int (nI (t))), (3, .int (nI (1))), (6, .long (lN (t ^ (pop S.ac))))]) rfl ?_
      exact L114 1024 0 (by omega) S.ac 0 X ⟨hM, xk_self X, sub_and2 _, by have := hS.2.1; omega, by rw [Nat.zero_add]; exact ab_top hS⟩
    | succ j_ ih90 =>
      intro k hk90  
      have hlt90 : k < pop S.ac := by omega
      have hpac := pop_le S.ac
      refine ev_b bX7_missing_90_92 (lv' := [(8, .int (nI (pop S.ac - k))), (6, .long (lN (t ^ k))), (0, .ref 0), (1, .int (nI (b))), (2, .int (nI (t))), (3, .int (nI (1))), (4, .long (0))]) (st' := [.int (nI (pop S.ac - k))]) (w2 := modW 0 S X K) rfl ?_
      refine ev_if_le_n (tgt := 108) (by omega) dX7_missing_92 (by decide) (fun h92 => (by exfalso; omega)) (fun h92 => ?_)
      refine ev_b bX7_missing_95_99 (lv' := [(8, .int (nI (pop S.ac - k))), (6, .long (lN (t ^ k))), (0, .ref 0), (1, .int (nI (b))), (2, .int (nI (t))), (3, .int (nI (1))), (4, .long (0))]) (st' := [.long (Int32.toInt64 ((nI (t)))), .long (lN (t ^ k))]) (w2 := modW 0 S X K) rfl ?_
      refine ev_topL (y := lN t) (by exact nI_lN (by omega)) ?_
      refine ev_b bX7_missing_99_100 (lv' := [(8, .int (nI (pop S.ac - k))), (6, .long (lN (t ^ k))), (0, .ref 0), (1, .int (nI (b))), (2, .int (nI (t))), (3, .int (nI (1))), (4, .long (0))]) (st' := [.long ((lN (t ^ k)) * (lN t))]) (w2 := modW 0 S X K) rfl ?_
      refine ev_topL (y := lN (t ^ (k + 1))) (by rw [lN_mul, Nat.pow_succ]) ?_
      refine ev_b bX7_missing_100_102 (lv' := [(6, .long (lN (t ^ (k + 1)))), (8, .int (nI (pop S.ac - k))), (0, .ref 0), (1, .int (nI (b))), (2, .int (nI (t))), (3, .int (nI (1))), (4, .long (0))]) (st' := []) (w2 := modW 0 S X K) rfl ?_
      refine ev_idec_n (x := pop S.ac - k) dX7_missing_102 rfl (by decide) (by omega) ?_
      refine ev_eq (lv' := [(8, .int (nI ((pop S.ac - k) - 1))), (6, .long (lN (t ^ (k + 1)))), (0, .ref 0), (1, .int (nI (b))), (2, .int (nI (t))), (3, .int (nI (1))), (4, .long (0))]) rfl rfl rfl ?_
      refine ev_b bX7_missing_105_90 (lv' := [(8, .int (nI ((pop S.ac - k) - 1))), (6, .long (lN (t ^ (k + 1)))), (0, .ref 0), (1, .int (nI (b))), (2, .int (nI (t))), (3, .int (nI (1))), (4, .long (0))]) (st' := []) (w2 := modW 0 S X K) rfl ?_
      rw [show nI ((pop S.ac - k) - 1) = nI (pop S.ac - (k + 1)) from congrArg nI (by omega)]
      exact ih90 (k + 1) (by omega) 
  refine ev_pick (lv' := [(8, .int (nI (pop S.ac))), (6, .long (1)), (0, .ref 0), (1, .int (nI (b))), (2, .int (nI (t))), (3, .int (nI (1))), (4, .long (0))]) rfl ?_
  rw [show nI (pop S.ac) = nI (pop S.ac - 0) from congrArg nI (by omega)]
  rw [show (.long (1) : Value) = .long (lN (t ^ 0)) from by exact congrArg Value.long (show (1 : Int64) = lN 1 from by decide)]
  exact L90 (pop S.ac) 0 (by omega) 
