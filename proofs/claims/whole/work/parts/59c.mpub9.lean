/-! ===== the reference's public methods: image, on, the branches looked at, gain ===== -/
/-- an image more: the row that was kept lies there still -/
def modV (S : SaleN) (X : ModN) (kf f : Nat → Nat) : AW := .inr (8, [.ref (1), .ref (2), .ref (3), .ref (4), .ref (5), .ref (6), .int (nI S.ca), .int (nI S.ac), .ref (7), .ref (8), .ref (9), .ref (10), .int (nI X.sl), .int (zI X.sh), .ref (11), .int (nI X.ty), .int (nI X.pl), .ref (12), .ref (13), .int (nI X.nu), .int (nI X.od), .ref (14), .ref (15), .int (nI X.on), .ref (16), .ref (17), .int (nI X.li), .ref (18), .int (nI X.rn), .int X.dr, .ref 20]) :: .inl (0, 6, .inl (aI S.rs)) :: .inl (0, 5, .inl (aI S.kd)) :: .inl (0, 5, .inl (aI S.fg)) :: .inl (0, 10, .inl (aI S.bd)) :: .inl (0, 10, .inl (aI S.st)) :: .inl (0, 10, .inl (aI S.pr)) :: .inl (0, 7, .inl (aI X.rf)) :: .inl (0, 1024, .inl (aZ X.wo)) :: .inl (0, 1024, .inl (aZ X.ta)) :: .inl (0, 5, .inl (aI X.ow)) :: .inl (0, 96, .inl (aI X.lt)) :: .inl (1, 5, .inl (aI (fun j => j + 0))) :: .inl (1, 5, .inl (aI (fun j => j + 5))) :: .inl (0, 3, .inl (aI X.tt)) :: .inl (0, 10, .inl (aI X.oo)) :: .inl (0, 5, .inl (aZ X.wn)) :: .inl (0, 5, .inl (aZ X.pd)) :: .inl (0, 5, .inl (aI X.rr)) :: [.inl (0, 48, .inl (aI kf)), .inl (0, 48, .inl (aI f))]
theorem bX7_image_0_2 {l : Launch} {E : XE} : Snd l E mX7_image 0 2 (xs [x_aload 0, x_aload 0]) := Snd.cons (snd_aload_n (i := 0) dX7_image_0 rfl) (Snd.cons (snd_aload_n (i := 0) dX7_image_1 rfl) Snd.nil)
theorem bX7_image_8_12 {l : Launch} {E : XE} : Snd l E mX7_image 8 12 (xs [x_aload 0, x_get 8 6]) := Snd.cons (snd_aload_n (i := 0) dX7_image_8 rfl) (Snd.cons (snd_get (ci := 8) (k := 6) dX7_image_9 rfl inX7 (by decide) tw_920) Snd.nil)
set_option maxHeartbeats 4000000 in
set_option maxRecDepth 100000 in
theorem q_image_ok_n {l : Launch} {E : XE} (S : SaleN) (X : ModN) (hS : SaleOK S) (hM : MOK S X) : MetE l E mX7_image (1) 1 48 [.ref 0] (modW 0 S X none) (MP S (some (rowS S)) (X.lt) (X.ty) (X.rr) (X.rn) (X.rf) (some (.int (nI (S.ca))))) := by
  refine MetE.of (by decide +kernel) (Nat.le_of_ble_eq_true rfl) ?_
  refine ev_eq (lv' := [(0, .ref 0)]) (st' := []) (w' := modW 0 S X none) rfl rfl rfl ?_
  refine ev_b bX7_image_0_2 (lv' := [(0, .ref 0)]) (st' := [.ref 0, .ref 0]) (w2 := modW 0 S X none) rfl ?_
  refine ev_callMA (Yc := mX7_rowNow) (st := [.ref 0]) dX7_image_2 tw_1020 kX7_rowNow (m_X7_rowNow_n S X) rfl rfl rfl rfl rfl rfl (Nat.le_of_ble_eq_true rfl) (by decide) (Nat.le_of_ble_eq_true rfl) (by decide) (Nat.le_of_ble_eq_true rfl) (Nat.le_of_ble_eq_true rfl) ?_
  rintro _ _ ⟨rfl, rfl⟩
  refine ev_eq (lv' := [(0, .ref 0)]) (st' := [.ref 19, .ref 0]) (w' := modW 0 S X none ++ row48 19 ((rowS S))) rfl rfl rfl ?_
  refine snd_put (ci := 8) (k := 30) (a := 0) dX7_image_5 rfl inX7 tyX7_ok nmX7 (by decide) tw_944 rfl rfl (Nat.le_of_ble_eq_true rfl) (fun _ => rfl) (fun _ => rfl) ?_
  refine ev_eq (w' := modW 0 S X (some (rowS S))) rfl rfl rfl ?_
  refine ev_b bX7_image_8_12 (lv' := [(0, .ref 0)]) (st' := [.int (nI (S.ca))]) (w2 := modW 0 S X (some (rowS S))) rfl ?_
  exact ev_iret dX7_image_12 rfl (Nat.le_of_ble_eq_true rfl) (Nat.le_of_ble_eq_true rfl) (Nat.le_of_ble_eq_true rfl) ⟨rfl, _, rfl, hM, rfl, rfl, rfl, rfl, rfl⟩
set_option maxHeartbeats 4000000 in
set_option maxRecDepth 100000 in
theorem q_image_ok_s {l : Launch} {E : XE} (S : SaleN) (X : ModN) (kf : Nat → Nat) (hS : SaleOK S) (hM : MOK S X) : MetE l E mX7_image (1) 1 48 [.ref 0] (modW 0 S X (some kf)) (fun r w' => r = some (.int (nI S.ca)) ∧ w' = modV S X kf (rowS S)) := by
  refine MetE.of (by decide +kernel) (Nat.le_of_ble_eq_true rfl) ?_
  refine ev_eq (lv' := [(0, .ref 0)]) (st' := []) (w' := modW 0 S X (some kf)) rfl rfl rfl ?_
  refine ev_b bX7_image_0_2 (lv' := [(0, .ref 0)]) (st' := [.ref 0, .ref 0]) (w2 := modW 0 S X (some kf)) rfl ?_
  refine ev_callMA (Yc := mX7_rowNow) (st := [.ref 0]) dX7_image_2 tw_1020 kX7_rowNow (m_X7_rowNow_s S X kf) rfl rfl rfl rfl rfl rfl (Nat.le_of_ble_eq_true rfl) (by decide) (Nat.le_of_ble_eq_true rfl) (by decide) (Nat.le_of_ble_eq_true rfl) (Nat.le_of_ble_eq_true rfl) ?_
  rintro _ _ ⟨rfl, rfl⟩
  refine ev_eq (lv' := [(0, .ref 0)]) (st' := [.ref 20, .ref 0]) (w' := modW 0 S X (some kf) ++ row48 20 ((rowS S))) rfl rfl rfl ?_
  refine snd_put (ci := 8) (k := 30) (a := 0) dX7_image_5 rfl inX7 tyX7_ok nmX7 (by decide) tw_944 rfl rfl (Nat.le_of_ble_eq_true rfl) (fun _ => rfl) (fun _ => rfl) ?_
  refine ev_eq (w' := modV S X kf (rowS S)) rfl rfl rfl ?_
  refine ev_b bX7_image_8_12 (lv' := [(0, .ref 0)]) (st' := [.int (nI (S.ca))]) (w2 := modV S X kf (rowS S)) rfl ?_
  exact ev_iret dX7_image_12 rfl (Nat.le_of_ble_eq_true rfl) (Nat.le_of_ble_eq_true rfl) (Nat.le_of_ble_eq_true rfl) ⟨rfl, rfl⟩
theorem bX7_on_0_4 {l : Launch} {E : XE} : Snd l E mX7_on 0 4 (xs [x_aload 0, x_get 8 30]) := Snd.cons (snd_aload_n (i := 0) dX7_on_0 rfl) (Snd.cons (snd_get (ci := 8) (k := 30) dX7_on_1 rfl inX7 (by decide) tw_944) Snd.nil)
theorem bX7_on_7_10 {l : Launch} {E : XE} : Snd l E mX7_on 7 10 (xs [x_aload 0, x_push (.int (-3))]) := Snd.cons (snd_aload_n (i := 0) dX7_on_7 rfl) (Snd.cons (snd_bipush (v := -3) dX7_on_8 (by decide)) Snd.nil)
set_option maxHeartbeats 4000000 in
set_option maxRecDepth 100000 in
theorem q_on_3 {l : Launch} {E : XE} (S : SaleN) (X : ModN)  (hS : SaleOK S) (hM : MOK S X)  : MetE l E mX7_on (1) 0 0 [.ref 0] (modW 0 S X none) (MP S (none) (X.lt) (X.ty) (X.rr) (X.rn) ((up X.rf 3 (X.rf 3 + 1))) (some (.int (-3)))) := by
  refine MetE.of (by decide +kernel) (Nat.le_of_ble_eq_true rfl) ?_
  have hca := hS.1
  have hpw := pow_ca hS
  have hac := ac_lt hS
  have hshl := shl_le hS
  
  refine ev_eq (lv' := [(0, .ref 0)]) (st' := []) (w' := modW 0 S X none) rfl rfl rfl ?_
  refine ev_b bX7_on_0_4 (lv' := [(0, .ref 0)]) (st' := [.null]) (w2 := modW 0 S X none) rfl ?_
  refine ev_ifnonnullN dX7_on_4 ?_
  refine ev_b bX7_on_7_10 (lv' := [(0, .ref 0)]) (st' := [.int (-3), .ref 0]) (w2 := modW 0 S X none) rfl ?_
  refine ev_callM (Yc := mX7_refuses) (st := []) dX7_on_10 tw_1012 kX7_refuses (m_X7_refuses_3 S X none) rfl rfl rfl rfl (by decide) (Nat.le_of_ble_eq_true rfl) (Nat.le_refl _) (Nat.le_refl _) (fun r w' h => by obtain ⟨-, rfl⟩ := h; exact mod_eq) ?_
  rintro _ _ ⟨rfl, rfl⟩
  refine ev_eq (lv' := [(0, .ref 0)]) (st' := [.int (-3)]) (w' := modW 0 S (((up X.rf 3 (X.rf 3 + 1)), X.wo, X.ta, X.ow, X.sl, X.sh, X.lt, X.ty, X.pl, X.nu, X.od, X.tt, X.oo, X.on, X.wn, X.pd, X.li, X.rr, X.rn, X.dr) : ModN) none) rfl rfl rfl ?_
  exact ev_iret dX7_on_13 rfl mod_le (Nat.le_refl _) (Nat.le_refl _) ⟨rfl, _, rfl, hM, rfl, rfl, rfl, rfl, rfl⟩
theorem bX7_on_14_19 {l : Launch} {E : XE} : Snd l E mX7_on 14 19 (xs [x_aload 0, x_aload 0, x_get 8 30]) := Snd.cons (snd_aload_n (i := 0) dX7_on_14 rfl) (Snd.cons (snd_aload_n (i := 0) dX7_on_15 rfl) (Snd.cons (snd_get (ci := 8) (k := 30) dX7_on_16 rfl inX7 (by decide) tw_944) Snd.nil))
theorem bX7_on_22_26 {l : Launch} {E : XE} : Snd l E mX7_on 22 26 (xs [x_aload 0, x_get 8 6]) := Snd.cons (snd_aload_n (i := 0) dX7_on_22 rfl) (Snd.cons (snd_get (ci := 8) (k := 6) dX7_on_23 rfl inX7 (by decide) tw_920) Snd.nil)
set_option maxHeartbeats 4000000 in
set_option maxRecDepth 100000 in
theorem q_on_ok {l : Launch} {E : XE} (S T : SaleN) (X : ModN) (hS : SaleOK S) (hM : MOK S X) (hT : SaleOK T) : MetE l E mX7_on (1) 0 0 [.ref 0] (modW 0 S X (some (rowS T))) (MP T (some (rowS T)) (X.lt) (X.ty) (X.rr) (X.rn) (X.rf) (some (.int (nI (T.ca))))) := by
  refine MetE.of (by decide +kernel) (Nat.le_of_ble_eq_true rfl) ?_
  refine ev_eq (lv' := [(0, .ref 0)]) (st' := []) (w' := modW 0 S X (some (rowS T))) rfl rfl rfl ?_
  refine ev_b bX7_on_0_4 (lv' := [(0, .ref 0)]) (st' := [.ref 19]) (w2 := modW 0 S X (some (rowS T))) rfl ?_
  refine ev_ifnonnull (tgt := 14) dX7_on_4 (by decide) ?_
  refine ev_b bX7_on_14_19 (lv' := [(0, .ref 0)]) (st' := [.ref 19, .ref 0]) (w2 := modW 0 S X (some (rowS T))) rfl ?_
  refine ev_callM (Yc := mX7_layBack) (st := []) dX7_on_19 tw_1064 kX7_layBack (m_X7_layBack_k S X T) rfl rfl rfl rfl (by decide) (Nat.le_of_ble_eq_true rfl) (Nat.le_refl _) (Nat.le_refl _) (fun r w' h => by obtain ⟨-, rfl⟩ := h; exact mod_eq) ?_
  rintro _ _ ⟨rfl, rfl⟩
  refine ev_eq (lv' := [(0, .ref 0)]) (st' := []) (w' := modW 0 T ((X.rf, X.wo, X.ta, X.ow, 1, X.sh, X.lt, X.ty, X.pl, X.nu, X.od, X.tt, X.oo, X.on, X.wn, X.pd, X.li, X.rr, X.rn, X.dr) : ModN) (some (rowS T))) rfl rfl rfl ?_
  refine ev_b bX7_on_22_26 (lv' := [(0, .ref 0)]) (st' := [.int (nI (T.ca))]) (w2 := modW 0 T ((X.rf, X.wo, X.ta, X.ow, 1, X.sh, X.lt, X.ty, X.pl, X.nu, X.od, X.tt, X.oo, X.on, X.wn, X.pd, X.li, X.rr, X.rn, X.dr) : ModN) (some (rowS T))) rfl ?_
  exact ev_iret dX7_on_26 rfl mod_le (Nat.le_refl _) (Nat.le_refl _) ⟨rfl, _, rfl, mok_stale hM.1 rfl, rfl, rfl, rfl, rfl, rfl⟩
