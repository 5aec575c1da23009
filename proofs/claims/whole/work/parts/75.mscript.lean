theorem bX7_faults_0_7 {l : Launch} {E : XE} : Snd l E mX7_faults 0 7 (xs [x_aload 0, x_push (.int (nI 0)), x_puti 8 15, x_aload 0, x_aload 2]) := Snd.cons (snd_aload_n (i := 0) dX7_faults_0 rfl) (Snd.cons (snd_iconst (v := nI 0) dX7_faults_1 (by decide)) (Snd.cons (snd_puti (ci := 8) (k := 15) dX7_faults_2 rfl inX7 tyX7_ok nmX7 (by decide) tw_929 rfl rfl) (Snd.cons (snd_aload_n (i := 0) dX7_faults_5 rfl) (Snd.cons (snd_aload_n (i := 2) dX7_faults_6 rfl) Snd.nil))))
theorem bX7_faults_10_11 {l : Launch} {E : XE} : Snd l E mX7_faults 10 11 (xs [x_iload 1]) := Snd.cons (snd_iload_n (i := 1) dX7_faults_10 rfl) Snd.nil
set_option maxHeartbeats 4000000 in
set_option maxRecDepth 100000 in
theorem m_X7_faults_n {l : Launch} {E : XE} (S : SaleN) (X : ModN) (T : SaleN) (z : Int)  : MetE l E mX7_faults (1) 0 0 [.ref 0, .int (zI (z)), .ref 19] (modW 0 S X none ++ row48 19 ((rowS T))) (fun r w' => r = some (.int (zI (z))) ∧ w' = modW 0 T ((X.rf, X.wo, X.ta, X.ow, 1, X.sh, X.lt, 0, X.pl, X.nu, X.od, X.tt, X.oo, X.on, X.wn, X.pd, X.li, X.rr, X.rn, X.dr) : ModN) none ++ row48 19 ((rowS T))) := by
  refine MetE.of (by decide +kernel) (Nat.le_of_ble_eq_true rfl) ?_
  refine ev_eq (lv' := [(0, .ref 0), (1, .int (zI (z))), (2, .ref 19)]) (st' := []) (w' := modW 0 S X none ++ row48 19 ((rowS T))) rfl rfl rfl ?_
  refine ev_b bX7_faults_0_7 (lv' := [(0, .ref 0), (1, .int (zI (z))), (2, .ref 19)]) (st' := [.ref 19, .ref 0]) (w2 := modW 0 S ((X.rf, X.wo, X.ta, X.ow, X.sl, X.sh, X.lt, 0, X.pl, X.nu, X.od, X.tt, X.oo, X.on, X.wn, X.pd, X.li, X.rr, X.rn, X.dr) : ModN) none ++ row48 19 ((rowS T))) rfl ?_
  refine ev_callM (Yc := mX7_layBack) (st := []) dX7_faults_7 tw_1064 kX7_layBack (m_X7_layBack_n S ((X.rf, X.wo, X.ta, X.ow, X.sl, X.sh, X.lt, 0, X.pl, X.nu, X.od, X.tt, X.oo, X.on, X.wn, X.pd, X.li, X.rr, X.rn, X.dr) : ModN) T) rfl rfl rfl rfl (by decide) (Nat.le_of_ble_eq_true rfl) (Nat.le_refl _) (Nat.le_refl _) (fun r w' h => by obtain ⟨-, rfl⟩ := h; rfl) ?_
  rintro _ _ ⟨rfl, rfl⟩
  refine ev_eq (lv' := [(0, .ref 0), (1, .int (zI (z))), (2, .ref 19)]) (st' := []) (w' := modW 0 T ((X.rf, X.wo, X.ta, X.ow, 1, X.sh, X.lt, 0, X.pl, X.nu, X.od, X.tt, X.oo, X.on, X.wn, X.pd, X.li, X.rr, X.rn, X.dr) : ModN) none ++ row48 19 ((rowS T))) rfl rfl rfl ?_
  refine ev_b bX7_faults_10_11 (lv' := [(0, .ref 0), (1, .int (zI (z))), (2, .ref 19)]) (st' := [.int (zI (z))]) (w2 := modW 0 T ((X.rf, X.wo, X.ta, X.ow, 1, X.sh, X.lt, 0, X.pl, X.nu, X.od, X.tt, X.oo, X.on, X.wn, X.pd, X.li, X.rr, X.rn, X.dr) : ModN) none ++ row48 19 ((rowS T))) rfl ?_
  exact ev_iret dX7_faults_11 rfl (Nat.le_of_ble_eq_true rfl) (Nat.le_refl _) (Nat.le_refl _) ⟨rfl, rfl⟩
set_option maxHeartbeats 4000000 in
set_option maxRecDepth 100000 in
theorem m_X7_faults_s {l : Launch} {E : XE} (S : SaleN) (X : ModN) (kf : Nat → Nat) (T : SaleN) (z : Int)  : MetE l E mX7_faults (1) 0 0 [.ref 0, .int (zI (z)), .ref 20] (modW 0 S X (some kf) ++ row48 20 ((rowS T))) (fun r w' => r = some (.int (zI (z))) ∧ w' = modW 0 T ((X.rf, X.wo, X.ta, X.ow, 1, X.sh, X.lt, 0, X.pl, X.nu, X.od, X.tt, X.oo, X.on, X.wn, X.pd, X.li, X.rr, X.rn, X.dr) : ModN) (some kf) ++ row48 20 ((rowS T))) := by
  refine MetE.of (by decide +kernel) (Nat.le_of_ble_eq_true rfl) ?_
  refine ev_eq (lv' := [(0, .ref 0), (1, .int (zI (z))), (2, .ref 20)]) (st' := []) (w' := modW 0 S X (some kf) ++ row48 20 ((rowS T))) rfl rfl rfl ?_
  refine ev_b bX7_faults_0_7 (lv' := [(0, .ref 0), (1, .int (zI (z))), (2, .ref 20)]) (st' := [.ref 20, .ref 0]) (w2 := modW 0 S ((X.rf, X.wo, X.ta, X.ow, X.sl, X.sh, X.lt, 0, X.pl, X.nu, X.od, X.tt, X.oo, X.on, X.wn, X.pd, X.li, X.rr, X.rn, X.dr) : ModN) (some kf) ++ row48 20 ((rowS T))) rfl ?_
  refine ev_callM (Yc := mX7_layBack) (st := []) dX7_faults_7 tw_1064 kX7_layBack (m_X7_layBack_s S ((X.rf, X.wo, X.ta, X.ow, X.sl, X.sh, X.lt, 0, X.pl, X.nu, X.od, X.tt, X.oo, X.on, X.wn, X.pd, X.li, X.rr, X.rn, X.dr) : ModN) kf T) rfl rfl rfl rfl (by decide) (Nat.le_of_ble_eq_true rfl) (Nat.le_refl _) (Nat.le_refl _) (fun r w' h => by obtain ⟨-, rfl⟩ := h; rfl) ?_
  rintro _ _ ⟨rfl, rfl⟩
  refine ev_eq (lv' := [(0, .ref 0), (1, .int (zI (z))), (2, .ref 20)]) (st' := []) (w' := modW 0 T ((X.rf, X.wo, X.ta, X.ow, 1, X.sh, X.lt, 0, X.pl, X.nu, X.od, X.tt, X.oo, X.on, X.wn, X.pd, X.li, X.rr, X.rn, X.dr) : ModN) (some kf) ++ row48 20 ((rowS T))) rfl rfl rfl ?_
  refine ev_b bX7_faults_10_11 (lv' := [(0, .ref 0), (1, .int (zI (z))), (2, .ref 20)]) (st' := [.int (zI (z))]) (w2 := modW 0 T ((X.rf, X.wo, X.ta, X.ow, 1, X.sh, X.lt, 0, X.pl, X.nu, X.od, X.tt, X.oo, X.on, X.wn, X.pd, X.li, X.rr, X.rn, X.dr) : ModN) (some kf) ++ row48 20 ((rowS T))) rfl ?_
  exact ev_iret dX7_faults_11 rfl (Nat.le_of_ble_eq_true rfl) (Nat.le_refl _) (Nat.le_refl _) ⟨rfl, rfl⟩
