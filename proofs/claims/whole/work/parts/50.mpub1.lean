/-! ===== the reference's public methods: what a call leaves ===== -/
def MP (S : SaleN) (K : Option (Nat → Nat)) (lt : Nat → Nat) (ty : Nat) (rr : Nat → Nat) (rn : Nat) (rf : Nat → Nat) (r : Option Value) : Option Value → AW → Prop := fun r' w' => r' = r ∧ ∃ X' : ModN, w' = modW 0 S X' K ∧ MOK S X' ∧ X'.lt = lt ∧ X'.ty = ty ∧ X'.rr = rr ∧ X'.rn = rn ∧ X'.rf = rf
theorem mok_stale {S : SaleN} {X : ModN} (h1 : X.sh = -9) (h2 : X.sl = 1) : MOK S X := ⟨h1, by omega, fun z => absurd z (by omega)⟩
theorem mok_fresh {S : SaleN} {X : ModN} (h1 : X.sh = -9) (h2 : X.sl = 0) (h3 : TabF S X.wo X.ta) : MOK S X := ⟨h1, by omega, fun _ => h3⟩
theorem bX7_letter_0_1 {l : Launch} {E : XE} : Snd l E mX7_letter 0 1 (xs [x_iload 1]) := Snd.cons (snd_iload_n (i := 1) dX7_letter_0 rfl) Snd.nil
theorem bX7_letter_4_7 {l : Launch} {E : XE} : Snd l E mX7_letter 4 7 (xs [x_aload 0, x_push (.int (-4))]) := Snd.cons (snd_aload_n (i := 0) dX7_letter_4 rfl) (Snd.cons (snd_bipush (v := -4) dX7_letter_5 (by decide)) Snd.nil)
set_option maxHeartbeats 4000000 in
set_option maxRecDepth 100000 in
theorem q_letter_4 {l : Launch} {E : XE} (S : SaleN) (X : ModN) (K : Option (Nat → Nat)) (z : Int) (hS : SaleOK S) (hM : MOK S X) (rz : -2147483648 ≤ z ∧ z < 2147483648) (h : z < 0) : MetE l E mX7_letter (1) 0 0 [.ref 0, .int (zI (z))] (modW 0 S X K) (MP S K (X.lt) (X.ty) (X.rr) (X.rn) ((up X.rf 4 (X.rf 4 + 1))) (some (.int (-4)))) := by
  refine MetE.of (by decide +kernel) (Nat.le_of_ble_eq_true rfl) ?_
  have hca := hS.1
  have hpw := pow_ca hS
  have hac := ac_lt hS
  have hshl := shl_le hS
  
  refine ev_eq (lv' := [(0, .ref 0), (1, .int (zI (z)))]) (st' := []) (w' := modW 0 S X K) rfl rfl rfl ?_
  refine ev_b bX7_letter_0_1 (lv' := [(0, .ref 0), (1, .int (zI (z)))]) (st' := [.int (zI (z))]) (w2 := modW 0 S X K) rfl ?_
  refine ev_if_ge_z (tgt := 11) (by constructor <;> omega) dX7_letter_1 (by decide) (fun h1 => (by exfalso; omega)) (fun h1 => ?_)
  refine ev_b bX7_letter_4_7 (lv' := [(0, .ref 0), (1, .int (zI (z)))]) (st' := [.int (-4), .ref 0]) (w2 := modW 0 S X K) rfl ?_
  refine ev_callM (Yc := mX7_refuses) (st := []) dX7_letter_7 tw_1012 kX7_refuses (m_X7_refuses_4 S X K) rfl rfl rfl rfl (by decide) (Nat.le_of_ble_eq_true rfl) (Nat.le_refl _) (Nat.le_refl _) (fun r w' h => by obtain ⟨-, rfl⟩ := h; exact mod_eq) ?_
  rintro _ _ ⟨rfl, rfl⟩
  refine ev_eq (lv' := [(0, .ref 0), (1, .int (zI (z)))]) (st' := [.int (-4)]) (w' := modW 0 S (((up X.rf 4 (X.rf 4 + 1)), X.wo, X.ta, X.ow, X.sl, X.sh, X.lt, X.ty, X.pl, X.nu, X.od, X.tt, X.oo, X.on, X.wn, X.pd, X.li, X.rr, X.rn, X.dr) : ModN) K) rfl rfl rfl ?_
  exact ev_iret dX7_letter_10 rfl mod_le (Nat.le_refl _) (Nat.le_refl _) ⟨rfl, _, rfl, hM, rfl, rfl, rfl, rfl, rfl⟩
theorem bX7_letter_11_15 {l : Launch} {E : XE} : Snd l E mX7_letter 11 15 (xs [x_iload 1, x_push (.int (nI 255))]) := Snd.cons (snd_iload_n (i := 1) dX7_letter_11 rfl) (Snd.cons (snd_sipush (v := nI 255) dX7_letter_12 (by decide)) Snd.nil)
theorem bX7_letter_27_30 {l : Launch} {E : XE} : Snd l E mX7_letter 27 30 (xs [x_aload 0, x_push (.int (-6))]) := Snd.cons (snd_aload_n (i := 0) dX7_letter_27 rfl) (Snd.cons (snd_bipush (v := -6) dX7_letter_28 (by decide)) Snd.nil)
set_option maxHeartbeats 4000000 in
set_option maxRecDepth 100000 in
theorem q_letter_6 {l : Launch} {E : XE} (S : SaleN) (X : ModN) (K : Option (Nat → Nat)) (z : Int) (hS : SaleOK S) (hM : MOK S X) (rz : -2147483648 ≤ z ∧ z < 2147483648) (h : 255 < z) : MetE l E mX7_letter (1) 0 0 [.ref 0, .int (zI (z))] (modW 0 S X K) (MP S K (X.lt) (X.ty) (X.rr) (X.rn) ((up X.rf 6 (X.rf 6 + 1))) (some (.int (-6)))) := by
  refine MetE.of (by decide +kernel) (Nat.le_of_ble_eq_true rfl) ?_
  have hca := hS.1
  have hpw := pow_ca hS
  have hac := ac_lt hS
  have hshl := shl_le hS
  
  refine ev_eq (lv' := [(0, .ref 0), (1, .int (zI (z)))]) (st' := []) (w' := modW 0 S X K) rfl rfl rfl ?_
  refine ev_b bX7_letter_0_1 (lv' := [(0, .ref 0), (1, .int (zI (z)))]) (st' := [.int (zI (z))]) (w2 := modW 0 S X K) rfl ?_
  refine ev_if_ge_z (tgt := 11) (by constructor <;> omega) dX7_letter_1 (by decide) (fun h1 => ?_) (fun h1 => (by exfalso; omega))
  refine ev_b bX7_letter_11_15 (lv' := [(0, .ref 0), (1, .int (zI (z)))]) (st' := [.int (nI (255)), .int (zI (z))]) (w2 := modW 0 S X K) rfl ?_
  refine ev_top (y := zI (((255 : Nat) : Int))) (zI_nat _).symm ?_
  refine ev_icmp_gt_z (tgt := 27) (by constructor <;> omega) (by constructor <;> omega) dX7_letter_15 (by decide) (fun h15 => ?_) (fun h15 => (by exfalso; omega))
  refine ev_b bX7_letter_27_30 (lv' := [(0, .ref 0), (1, .int (zI (z)))]) (st' := [.int (-6), .ref 0]) (w2 := modW 0 S X K) rfl ?_
  refine ev_callM (Yc := mX7_refuses) (st := []) dX7_letter_30 tw_1012 kX7_refuses (m_X7_refuses_6 S X K) rfl rfl rfl rfl (by decide) (Nat.le_of_ble_eq_true rfl) (Nat.le_refl _) (Nat.le_refl _) (fun r w' h => by obtain ⟨-, rfl⟩ := h; exact mod_eq) ?_
  rintro _ _ ⟨rfl, rfl⟩
  refine ev_eq (lv' := [(0, .ref 0), (1, .int (zI (z)))]) (st' := [.int (-6)]) (w' := modW 0 S (((up X.rf 6 (X.rf 6 + 1)), X.wo, X.ta, X.ow, X.sl, X.sh, X.lt, X.ty, X.pl, X.nu, X.od, X.tt, X.oo, X.on, X.wn, X.pd, X.li, X.rr, X.rn, X.dr) : ModN) K) rfl rfl rfl ?_
  exact ev_iret dX7_letter_33 rfl mod_le (Nat.le_refl _) (Nat.le_refl _) ⟨rfl, _, rfl, hM, rfl, rfl, rfl, rfl, rfl⟩
theorem bX7_letter_18_24 {l : Launch} {E : XE} : Snd l E mX7_letter 18 24 (xs [x_aload 0, x_get 8 15, x_push (.int (nI 96))]) := Snd.cons (snd_aload_n (i := 0) dX7_letter_18 rfl) (Snd.cons (snd_get (ci := 8) (k := 15) dX7_letter_19 rfl inX7 (by decide) tw_929) (Snd.cons (snd_bipush (v := nI 96) dX7_letter_22 (by decide)) Snd.nil))
set_option maxHeartbeats 4000000 in
set_option maxRecDepth 100000 in
theorem q_letter_6f {l : Launch} {E : XE} (S : SaleN) (X : ModN) (K : Option (Nat → Nat)) (c : Nat) (hS : SaleOK S) (hM : MOK S X) (hc : c ≤ 255) (h : X.ty = 96) : MetE l E mX7_letter (1) 0 0 [.ref 0, .int (nI (c))] (modW 0 S X K) (MP S K (X.lt) (X.ty) (X.rr) (X.rn) ((up X.rf 6 (X.rf 6 + 1))) (some (.int (-6)))) := by
  refine MetE.of (by decide +kernel) (Nat.le_of_ble_eq_true rfl) ?_
  have hca := hS.1
  have hpw := pow_ca hS
  have hac := ac_lt hS
  have hshl := shl_le hS
  
  refine ev_eq (lv' := [(0, .ref 0), (1, .int (nI (c)))]) (st' := []) (w' := modW 0 S X K) rfl rfl rfl ?_
  refine ev_b bX7_letter_0_1 (lv' := [(0, .ref 0), (1, .int (nI (c)))]) (st' := [.int (nI (c))]) (w2 := modW 0 S X K) rfl ?_
  refine ev_if_ge_n (tgt := 11) (by omega) dX7_letter_1 (by decide) (fun h1 => ?_) (fun h1 => (by exfalso; omega))
  refine ev_b bX7_letter_11_15 (lv' := [(0, .ref 0), (1, .int (nI (c)))]) (st' := [.int (nI (255)), .int (nI (c))]) (w2 := modW 0 S X K) rfl ?_
  refine ev_icmp_gt_n (tgt := 27) (by omega) (by decide) dX7_letter_15 (by decide) (fun h15 => (by exfalso; omega)) (fun h15 => ?_)
  refine ev_b bX7_letter_18_24 (lv' := [(0, .ref 0), (1, .int (nI (c)))]) (st' := [.int (nI (96)), .int (nI (X.ty))]) (w2 := modW 0 S X K) rfl ?_
  refine ev_icmp_ne_n (tgt := 34) (by omega) (by decide) dX7_letter_24 (by decide) (fun h24 => (by exfalso; omega)) (fun h24 => ?_)
  refine ev_b bX7_letter_27_30 (lv' := [(0, .ref 0), (1, .int (nI (c)))]) (st' := [.int (-6), .ref 0]) (w2 := modW 0 S X K) rfl ?_
  refine ev_callM (Yc := mX7_refuses) (st := []) dX7_letter_30 tw_1012 kX7_refuses (m_X7_refuses_6 S X K) rfl rfl rfl rfl (by decide) (Nat.le_of_ble_eq_true rfl) (Nat.le_refl _) (Nat.le_refl _) (fun r w' h => by obtain ⟨-, rfl⟩ := h; exact mod_eq) ?_
  rintro _ _ ⟨rfl, rfl⟩
  refine ev_eq (lv' := [(0, .ref 0), (1, .int (nI (c)))]) (st' := [.int (-6)]) (w' := modW 0 S (((up X.rf 6 (X.rf 6 + 1)), X.wo, X.ta, X.ow, X.sl, X.sh, X.lt, X.ty, X.pl, X.nu, X.od, X.tt, X.oo, X.on, X.wn, X.pd, X.li, X.rr, X.rn, X.dr) : ModN) K) rfl rfl rfl ?_
  exact ev_iret dX7_letter_33 rfl mod_le (Nat.le_refl _) (Nat.le_refl _) ⟨rfl, _, rfl, hM, rfl, rfl, rfl, rfl, rfl⟩
theorem bX7_letter_34_43 {l : Launch} {E : XE} : Snd l E mX7_letter 34 43 (xs [x_aload 0, x_get 8 14, x_aload 0, x_get 8 15, x_iload 1]) := Snd.cons (snd_aload_n (i := 0) dX7_letter_34 rfl) (Snd.cons (snd_get (ci := 8) (k := 14) dX7_letter_35 rfl inX7 (by decide) tw_928) (Snd.cons (snd_aload_n (i := 0) dX7_letter_38 rfl) (Snd.cons (snd_get (ci := 8) (k := 15) dX7_letter_39 rfl inX7 (by decide) tw_929) (Snd.cons (snd_iload_n (i := 1) dX7_letter_42 rfl) Snd.nil))))
theorem bX7_letter_44_50 {l : Launch} {E : XE} : Snd l E mX7_letter 44 50 (xs [x_aload 0, x_dup, x_get 8 15, x_push (.int (nI 1))]) := Snd.cons (snd_aload_n (i := 0) dX7_letter_44 rfl) (Snd.cons (snd_dup dX7_letter_45) (Snd.cons (snd_get (ci := 8) (k := 15) dX7_letter_46 rfl inX7 (by decide) tw_929) (Snd.cons (snd_iconst (v := nI 1) dX7_letter_49 (by decide)) Snd.nil)))
theorem bX7_letter_51_58 {l : Launch} {E : XE} : Snd l E mX7_letter 51 58 (xs [x_puti 8 15, x_aload 0, x_get 8 15]) := Snd.cons (snd_puti (ci := 8) (k := 15) dX7_letter_51 rfl inX7 tyX7_ok nmX7 (by decide) tw_929 rfl rfl) (Snd.cons (snd_aload_n (i := 0) dX7_letter_54 rfl) (Snd.cons (snd_get (ci := 8) (k := 15) dX7_letter_55 rfl inX7 (by decide) tw_929) Snd.nil))
set_option maxHeartbeats 4000000 in
set_option maxRecDepth 100000 in
theorem q_letter_ok {l : Launch} {E : XE} (S : SaleN) (X : ModN) (K : Option (Nat → Nat)) (c : Nat) (hS : SaleOK S) (hM : MOK S X) (hc : c ≤ 255) (h : X.ty < 96) : MetE l E mX7_letter (0) 0 0 [.ref 0, .int (nI (c))] (modW 0 S X K) (MP S K (up X.lt X.ty c) (X.ty + 1) (X.rr) (X.rn) (X.rf) (some (.int (nI (X.ty + 1))))) := by
  refine MetE.of (by decide +kernel) (Nat.le_of_ble_eq_true rfl) ?_
  have hca := hS.1
  have hpw := pow_ca hS
  have hac := ac_lt hS
  have hshl := shl_le hS
  
  refine ev_eq (lv' := [(0, .ref 0), (1, .int (nI (c)))]) (st' := []) (w' := modW 0 S X K) rfl rfl rfl ?_
  refine ev_b bX7_letter_0_1 (lv' := [(0, .ref 0), (1, .int (nI (c)))]) (st' := [.int (nI (c))]) (w2 := modW 0 S X K) rfl ?_
  refine ev_if_ge_n (tgt := 11) (by omega) dX7_letter_1 (by decide) (fun h1 => ?_) (fun h1 => (by exfalso; omega))
  refine ev_b bX7_letter_11_15 (lv' := [(0, .ref 0), (1, .int (nI (c)))]) (st' := [.int (nI (255)), .int (nI (c))]) (w2 := modW 0 S X K) rfl ?_
  refine ev_icmp_gt_n (tgt := 27) (by omega) (by decide) dX7_letter_15 (by decide) (fun h15 => (by exfalso; omega)) (fun h15 => ?_)
  refine ev_b bX7_letter_18_24 (lv' := [(0, .ref 0), (1, .int (nI (c)))]) (st' := [.int (nI (96)), .int (nI (X.ty))]) (w2 := modW 0 S X K) rfl ?_
  refine ev_icmp_ne_n (tgt := 34) (by omega) (by decide) dX7_letter_24 (by decide) (fun h24 => ?_) (fun h24 => (by exfalso; omega))
  refine ev_b bX7_letter_34_43 (lv' := [(0, .ref 0), (1, .int (nI (c)))]) (st' := [.int (nI (c)), .int (nI (X.ty)), .ref 11]) (w2 := modW 0 S X K) rfl ?_
  refine ev_iast_n (f := X.lt) dX7_letter_43 rfl (by omega) (by decide) ?_
  refine ev_eq (w' := modW 0 S ((X.rf, X.wo, X.ta, X.ow, X.sl, X.sh, up X.lt X.ty c, X.ty, X.pl, X.nu, X.od, X.tt, X.oo, X.on, X.wn, X.pd, X.li, X.rr, X.rn, X.dr) : ModN) K) rfl rfl rfl ?_
  refine ev_b bX7_letter_44_50 (lv' := [(0, .ref 0), (1, .int (nI (c)))]) (st' := [.int (nI (1)), .int (nI (X.ty)), .ref 0]) (w2 := modW 0 S ((X.rf, X.wo, X.ta, X.ow, X.sl, X.sh, up X.lt X.ty c, X.ty, X.pl, X.nu, X.od, X.tt, X.oo, X.on, X.wn, X.pd, X.li, X.rr, X.rn, X.dr) : ModN) K) rfl ?_
  refine ev_iadd_n dX7_letter_50 ?_
  refine ev_b bX7_letter_51_58 (lv' := [(0, .ref 0), (1, .int (nI (c)))]) (st' := [.int (nI (X.ty + 1))]) (w2 := modW 0 S ((X.rf, X.wo, X.ta, X.ow, X.sl, X.sh, up X.lt X.ty c, X.ty + 1, X.pl, X.nu, X.od, X.tt, X.oo, X.on, X.wn, X.pd, X.li, X.rr, X.rn, X.dr) : ModN) K) rfl ?_
  exact ev_iret dX7_letter_58 rfl mod_le (Nat.le_refl _) (Nat.le_refl _) ⟨rfl, _, rfl, hM, rfl, rfl, rfl, rfl, rfl⟩
theorem bX7_comes_0_2 {l : Launch} {E : XE} : Snd l E mX7_comes 0 2 (xs [x_aload 0, x_push (.int (nI 1))]) := Snd.cons (snd_aload_n (i := 0) dX7_comes_0 rfl) (Snd.cons (snd_iconst (v := nI 1) dX7_comes_1 (by decide)) Snd.nil)
theorem bX7_comes_5_6 {l : Launch} {E : XE} : Snd l E mX7_comes 5 6 (xs [x_iload 1]) := Snd.cons (snd_iload_n (i := 1) dX7_comes_5 rfl) Snd.nil
theorem bX7_comes_36_49 {l : Launch} {E : XE} : Snd l E mX7_comes 36 49 (xs [x_aload 0, x_get 8 3, x_aload 0, x_get 8 6, x_aload 0, x_get 8 21, x_push (.int (nI 0))]) := Snd.cons (snd_aload_n (i := 0) dX7_comes_36 rfl) (Snd.cons (snd_get (ci := 8) (k := 3) dX7_comes_37 rfl inX7 (by decide) tw_917) (Snd.cons (snd_aload_n (i := 0) dX7_comes_40 rfl) (Snd.cons (snd_get (ci := 8) (k := 6) dX7_comes_41 rfl inX7 (by decide) tw_920) (Snd.cons (snd_aload_n (i := 0) dX7_comes_44 rfl) (Snd.cons (snd_get (ci := 8) (k := 21) dX7_comes_45 rfl inX7 (by decide) tw_935) (Snd.cons (snd_iconst (v := nI 0) dX7_comes_48 (by decide)) Snd.nil))))))
theorem bX7_comes_51_64 {l : Launch} {E : XE} : Snd l E mX7_comes 51 64 (xs [x_aload 0, x_get 8 4, x_aload 0, x_get 8 6, x_aload 0, x_get 8 21, x_push (.int (nI 1))]) := Snd.cons (snd_aload_n (i := 0) dX7_comes_51 rfl) (Snd.cons (snd_get (ci := 8) (k := 4) dX7_comes_52 rfl inX7 (by decide) tw_918) (Snd.cons (snd_aload_n (i := 0) dX7_comes_55 rfl) (Snd.cons (snd_get (ci := 8) (k := 6) dX7_comes_56 rfl inX7 (by decide) tw_920) (Snd.cons (snd_aload_n (i := 0) dX7_comes_59 rfl) (Snd.cons (snd_get (ci := 8) (k := 21) dX7_comes_60 rfl inX7 (by decide) tw_935) (Snd.cons (snd_iconst (v := nI 1) dX7_comes_63 (by decide)) Snd.nil))))))
theorem bX7_comes_66_79 {l : Launch} {E : XE} : Snd l E mX7_comes 66 79 (xs [x_aload 0, x_get 8 5, x_aload 0, x_get 8 6, x_aload 0, x_get 8 21, x_push (.int (nI 2))]) := Snd.cons (snd_aload_n (i := 0) dX7_comes_66 rfl) (Snd.cons (snd_get (ci := 8) (k := 5) dX7_comes_67 rfl inX7 (by decide) tw_919) (Snd.cons (snd_aload_n (i := 0) dX7_comes_70 rfl) (Snd.cons (snd_get (ci := 8) (k := 6) dX7_comes_71 rfl inX7 (by decide) tw_920) (Snd.cons (snd_aload_n (i := 0) dX7_comes_74 rfl) (Snd.cons (snd_get (ci := 8) (k := 21) dX7_comes_75 rfl inX7 (by decide) tw_935) (Snd.cons (snd_iconst (v := nI 2) dX7_comes_78 (by decide)) Snd.nil))))))
theorem bX7_comes_81_91 {l : Launch} {E : XE} : Snd l E mX7_comes 81 91 (xs [x_aload 0, x_dup, x_get 8 7, x_push (.int (nI 1)), x_aload 0, x_get 8 6]) := Snd.cons (snd_aload_n (i := 0) dX7_comes_81 rfl) (Snd.cons (snd_dup dX7_comes_82) (Snd.cons (snd_get (ci := 8) (k := 7) dX7_comes_83 rfl inX7 (by decide) tw_921) (Snd.cons (snd_iconst (v := nI 1) dX7_comes_86 (by decide)) (Snd.cons (snd_aload_n (i := 0) dX7_comes_87 rfl) (Snd.cons (snd_get (ci := 8) (k := 6) dX7_comes_88 rfl inX7 (by decide) tw_920) Snd.nil)))))
theorem bX7_comes_93_102 {l : Launch} {E : XE} : Snd l E mX7_comes 93 102 (xs [x_puti 8 7, x_aload 0, x_dup, x_get 8 6, x_push (.int (nI 1))]) := Snd.cons (snd_puti (ci := 8) (k := 7) dX7_comes_93 rfl inX7 tyX7_ok nmX7 (by decide) tw_921 rfl rfl) (Snd.cons (snd_aload_n (i := 0) dX7_comes_96 rfl) (Snd.cons (snd_dup dX7_comes_97) (Snd.cons (snd_get (ci := 8) (k := 6) dX7_comes_98 rfl inX7 (by decide) tw_920) (Snd.cons (snd_iconst (v := nI 1) dX7_comes_101 (by decide)) Snd.nil))))
theorem bX7_comes_103_203 {l : Launch} {E : XE} : Snd l E mX7_comes 103 203 (xs [x_puti 8 6, x_id]) := Snd.cons (snd_puti (ci := 8) (k := 6) dX7_comes_103 rfl inX7 tyX7_ok nmX7 (by decide) tw_920 rfl rfl) (Snd.cons (snd_goto (tgt := 203) dX7_comes_106 (by decide)) Snd.nil)
set_option maxHeartbeats 4000000 in
set_option maxRecDepth 100000 in
theorem m_X7_comes_0 {l : Launch} {E : XE} (S : SaleN) (X : ModN) (K : Option (Nat → Nat)) (hca : S.ca < 10) : MetE l E mX7_comes (0) 0 0 [.ref 0, .int (nI (0))] (modW 0 S X K) (fun r w' => r = none ∧ w' = modW 0 ((addS S (X.tt 0) (X.tt 1) (X.tt 2))) ((X.rf, X.wo, X.ta, X.ow, 1, X.sh, X.lt, X.ty, X.pl, X.nu, X.od, X.tt, X.oo, X.on, X.wn, X.pd, X.li, X.rr, X.rn, X.dr) : ModN) K) := by
  refine MetE.of (by decide +kernel) (Nat.le_of_ble_eq_true rfl) ?_
  refine ev_eq (lv' := [(0, .ref 0), (1, .int (nI (0)))]) (st' := []) (w' := modW 0 S X K) rfl rfl rfl ?_
  refine ev_b bX7_comes_0_2 (lv' := [(0, .ref 0), (1, .int (nI (0)))]) (st' := [.int (nI (1)), .ref 0]) (w2 := modW 0 S X K) rfl ?_
  refine snd_put (ci := 8) (k := 12) (a := 0) dX7_comes_2 rfl inX7 tyX7_ok nmX7 (by decide) tw_926 rfl rfl (Nat.le_of_ble_eq_true rfl) (fun _ => rfl) (fun _ => rfl) ?_
  refine ev_eq (w' := modW 0 S ((X.rf, X.wo, X.ta, X.ow, 1, X.sh, X.lt, X.ty, X.pl, X.nu, X.od, X.tt, X.oo, X.on, X.wn, X.pd, X.li, X.rr, X.rn, X.dr) : ModN) K) rfl rfl rfl ?_
  refine ev_b bX7_comes_5_6 (lv' := [(0, .ref 0), (1, .int (nI (0)))]) (st' := [.int (nI (0))]) (w2 := modW 0 S ((X.rf, X.wo, X.ta, X.ow, 1, X.sh, X.lt, X.ty, X.pl, X.nu, X.od, X.tt, X.oo, X.on, X.wn, X.pd, X.li, X.rr, X.rn, X.dr) : ModN) K) rfl ?_
  refine ev_tableIn (off := 30) (tgt := 36) dX7_comes_6 (by decide) (by decide) (by decide) (by decide) ?_
  refine ev_b bX7_comes_36_49 (lv' := [(0, .ref 0), (1, .int (nI (0)))]) (st' := [.int (nI (0)), .ref 14, .int (nI (S.ca)), .ref 4]) (w2 := modW 0 S ((X.rf, X.wo, X.ta, X.ow, 1, X.sh, X.lt, X.ty, X.pl, X.nu, X.od, X.tt, X.oo, X.on, X.wn, X.pd, X.li, X.rr, X.rn, X.dr) : ModN) K) rfl ?_
  refine ev_iald_n (f := X.tt) dX7_comes_49 rfl (by omega) (by decide) ?_
  refine ev_iast_n (f := S.bd) dX7_comes_50 rfl (by omega) (by decide) ?_
  refine ev_eq (w' := modW 0 ((up S.bd S.ca (X.tt 0), S.st, S.pr, S.ow, S.kd, S.fg, S.rs, S.ca, S.ac) : SaleN) ((X.rf, X.wo, X.ta, X.ow, 1, X.sh, X.lt, X.ty, X.pl, X.nu, X.od, X.tt, X.oo, X.on, X.wn, X.pd, X.li, X.rr, X.rn, X.dr) : ModN) K) rfl rfl rfl ?_
  refine ev_b bX7_comes_51_64 (lv' := [(0, .ref 0), (1, .int (nI (0)))]) (st' := [.int (nI (1)), .ref 14, .int (nI (S.ca)), .ref 5]) (w2 := modW 0 ((up S.bd S.ca (X.tt 0), S.st, S.pr, S.ow, S.kd, S.fg, S.rs, S.ca, S.ac) : SaleN) ((X.rf, X.wo, X.ta, X.ow, 1, X.sh, X.lt, X.ty, X.pl, X.nu, X.od, X.tt, X.oo, X.on, X.wn, X.pd, X.li, X.rr, X.rn, X.dr) : ModN) K) rfl ?_
  refine ev_iald_n (f := X.tt) dX7_comes_64 rfl (by omega) (by decide) ?_
  refine ev_iast_n (f := S.st) dX7_comes_65 rfl (by omega) (by decide) ?_
  refine ev_eq (w' := modW 0 ((up S.bd S.ca (X.tt 0), up S.st S.ca (X.tt 1), S.pr, S.ow, S.kd, S.fg, S.rs, S.ca, S.ac) : SaleN) ((X.rf, X.wo, X.ta, X.ow, 1, X.sh, X.lt, X.ty, X.pl, X.nu, X.od, X.tt, X.oo, X.on, X.wn, X.pd, X.li, X.rr, X.rn, X.dr) : ModN) K) rfl rfl rfl ?_
  refine ev_b bX7_comes_66_79 (lv' := [(0, .ref 0), (1, .int (nI (0)))]) (st' := [.int (nI (2)), .ref 14, .int (nI (S.ca)), .ref 6]) (w2 := modW 0 ((up S.bd S.ca (X.tt 0), up S.st S.ca (X.tt 1), S.pr, S.ow, S.kd, S.fg, S.rs, S.ca, S.ac) : SaleN) ((X.rf, X.wo, X.ta, X.ow, 1, X.sh, X.lt, X.ty, X.pl, X.nu, X.od, X.tt, X.oo, X.on, X.wn, X.pd, X.li, X.rr, X.rn, X.dr) : ModN) K) rfl ?_
  refine ev_iald_n (f := X.tt) dX7_comes_79 rfl (by omega) (by decide) ?_
  refine ev_iast_n (f := S.pr) dX7_comes_80 rfl (by omega) (by decide) ?_
  refine ev_eq (w' := modW 0 ((up S.bd S.ca (X.tt 0), up S.st S.ca (X.tt 1), up S.pr S.ca (X.tt 2), S.ow, S.kd, S.fg, S.rs, S.ca, S.ac) : SaleN) ((X.rf, X.wo, X.ta, X.ow, 1, X.sh, X.lt, X.ty, X.pl, X.nu, X.od, X.tt, X.oo, X.on, X.wn, X.pd, X.li, X.rr, X.rn, X.dr) : ModN) K) rfl rfl rfl ?_
  refine ev_b bX7_comes_81_91 (lv' := [(0, .ref 0), (1, .int (nI (0)))]) (st' := [.int (nI (S.ca)), .int (nI (1)), .int (nI (S.ac)), .ref 0]) (w2 := modW 0 ((up S.bd S.ca (X.tt 0), up S.st S.ca (X.tt 1), up S.pr S.ca (X.tt 2), S.ow, S.kd, S.fg, S.rs, S.ca, S.ac) : SaleN) ((X.rf, X.wo, X.ta, X.ow, 1, X.sh, X.lt, X.ty, X.pl, X.nu, X.od, X.tt, X.oo, X.on, X.wn, X.pd, X.li, X.rr, X.rn, X.dr) : ModN) K) rfl ?_
  refine ev_ishl_n (by omega) dX7_comes_91 ?_
  refine ev_ior_n dX7_comes_92 ?_
  refine ev_b bX7_comes_93_102 (lv' := [(0, .ref 0), (1, .int (nI (0)))]) (st' := [.int (nI (1)), .int (nI (S.ca)), .ref 0]) (w2 := modW 0 ((up S.bd S.ca (X.tt 0), up S.st S.ca (X.tt 1), up S.pr S.ca (X.tt 2), S.ow, S.kd, S.fg, S.rs, S.ca, S.ac ||| (1 <<< S.ca)) : SaleN) ((X.rf, X.wo, X.ta, X.ow, 1, X.sh, X.lt, X.ty, X.pl, X.nu, X.od, X.tt, X.oo, X.on, X.wn, X.pd, X.li, X.rr, X.rn, X.dr) : ModN) K) rfl ?_
  refine ev_iadd_n dX7_comes_102 ?_
  refine ev_b bX7_comes_103_203 (lv' := [(0, .ref 0), (1, .int (nI (0)))]) (st' := []) (w2 := modW 0 ((up S.bd S.ca (X.tt 0), up S.st S.ca (X.tt 1), up S.pr S.ca (X.tt 2), S.ow, S.kd, S.fg, S.rs, S.ca + 1, S.ac ||| (1 <<< S.ca)) : SaleN) ((X.rf, X.wo, X.ta, X.ow, 1, X.sh, X.lt, X.ty, X.pl, X.nu, X.od, X.tt, X.oo, X.on, X.wn, X.pd, X.li, X.rr, X.rn, X.dr) : ModN) K) rfl ?_
  exact ev_vret dX7_comes_203 rfl mod_le (Nat.le_refl _) (Nat.le_refl _) ⟨rfl, (by rfl)⟩
theorem bX7_comes_109_120 {l : Launch} {E : XE} : Snd l E mX7_comes 109 120 (xs [x_aload 0, x_dup, x_get 8 7, x_push (.int (nI 1)), x_aload 0, x_get 8 21, x_push (.int (nI 0))]) := Snd.cons (snd_aload_n (i := 0) dX7_comes_109 rfl) (Snd.cons (snd_dup dX7_comes_110) (Snd.cons (snd_get (ci := 8) (k := 7) dX7_comes_111 rfl inX7 (by decide) tw_921) (Snd.cons (snd_iconst (v := nI 1) dX7_comes_114 (by decide)) (Snd.cons (snd_aload_n (i := 0) dX7_comes_115 rfl) (Snd.cons (snd_get (ci := 8) (k := 21) dX7_comes_116 rfl inX7 (by decide) tw_935) (Snd.cons (snd_iconst (v := nI 0) dX7_comes_119 (by decide)) Snd.nil))))))
theorem bX7_comes_123_203 {l : Launch} {E : XE} : Snd l E mX7_comes 123 203 (xs [x_puti 8 7, x_id]) := Snd.cons (snd_puti (ci := 8) (k := 7) dX7_comes_123 rfl inX7 tyX7_ok nmX7 (by decide) tw_921 rfl rfl) (Snd.cons (snd_goto (tgt := 203) dX7_comes_126 (by decide)) Snd.nil)
set_option maxHeartbeats 4000000 in
set_option maxRecDepth 100000 in
theorem m_X7_comes_1 {l : Launch} {E : XE} (S : SaleN) (X : ModN) (K : Option (Nat → Nat)) (hk : X.tt 0 < 10) : MetE l E mX7_comes (0) 0 0 [.ref 0, .int (nI (1))] (modW 0 S X K) (fun r w' => r = none ∧ w' = modW 0 ((turnS S (X.tt 0))) ((X.rf, X.wo, X.ta, X.ow, 1, X.sh, X.lt, X.ty, X.pl, X.nu, X.od, X.tt, X.oo, X.on, X.wn, X.pd, X.li, X.rr, X.rn, X.dr) : ModN) K) := by
  refine MetE.of (by decide +kernel) (Nat.le_of_ble_eq_true rfl) ?_
  refine ev_eq (lv' := [(0, .ref 0), (1, .int (nI (1)))]) (st' := []) (w' := modW 0 S X K) rfl rfl rfl ?_
  refine ev_b bX7_comes_0_2 (lv' := [(0, .ref 0), (1, .int (nI (1)))]) (st' := [.int (nI (1)), .ref 0]) (w2 := modW 0 S X K) rfl ?_
  refine snd_put (ci := 8) (k := 12) (a := 0) dX7_comes_2 rfl inX7 tyX7_ok nmX7 (by decide) tw_926 rfl rfl (Nat.le_of_ble_eq_true rfl) (fun _ => rfl) (fun _ => rfl) ?_
  refine ev_eq (w' := modW 0 S ((X.rf, X.wo, X.ta, X.ow, 1, X.sh, X.lt, X.ty, X.pl, X.nu, X.od, X.tt, X.oo, X.on, X.wn, X.pd, X.li, X.rr, X.rn, X.dr) : ModN) K) rfl rfl rfl ?_
  refine ev_b bX7_comes_5_6 (lv' := [(0, .ref 0), (1, .int (nI (1)))]) (st' := [.int (nI (1))]) (w2 := modW 0 S ((X.rf, X.wo, X.ta, X.ow, 1, X.sh, X.lt, X.ty, X.pl, X.nu, X.od, X.tt, X.oo, X.on, X.wn, X.pd, X.li, X.rr, X.rn, X.dr) : ModN) K) rfl ?_
  refine ev_tableIn (off := 103) (tgt := 109) dX7_comes_6 (by decide) (by decide) (by decide) (by decide) ?_
  refine ev_b bX7_comes_109_120 (lv' := [(0, .ref 0), (1, .int (nI (1)))]) (st' := [.int (nI (0)), .ref 14, .int (nI (1)), .int (nI (S.ac)), .ref 0]) (w2 := modW 0 S ((X.rf, X.wo, X.ta, X.ow, 1, X.sh, X.lt, X.ty, X.pl, X.nu, X.od, X.tt, X.oo, X.on, X.wn, X.pd, X.li, X.rr, X.rn, X.dr) : ModN) K) rfl ?_
  refine ev_iald_n (f := X.tt) dX7_comes_120 rfl (by omega) (by decide) ?_
  refine ev_ishl_n (by omega) dX7_comes_121 ?_
  refine ev_ixor_n dX7_comes_122 ?_
  refine ev_b bX7_comes_123_203 (lv' := [(0, .ref 0), (1, .int (nI (1)))]) (st' := []) (w2 := modW 0 ((S.bd, S.st, S.pr, S.ow, S.kd, S.fg, S.rs, S.ca, S.ac ^^^ (1 <<< (X.tt 0))) : SaleN) ((X.rf, X.wo, X.ta, X.ow, 1, X.sh, X.lt, X.ty, X.pl, X.nu, X.od, X.tt, X.oo, X.on, X.wn, X.pd, X.li, X.rr, X.rn, X.dr) : ModN) K) rfl ?_
  exact ev_vret dX7_comes_203 rfl mod_le (Nat.le_refl _) (Nat.le_refl _) ⟨rfl, (by rfl)⟩
theorem bX7_comes_129_138 {l : Launch} {E : XE} : Snd l E mX7_comes 129 138 (xs [x_aload 0, x_get 8 1, x_aload 0, x_get 8 21, x_push (.int (nI 0))]) := Snd.cons (snd_aload_n (i := 0) dX7_comes_129 rfl) (Snd.cons (snd_get (ci := 8) (k := 1) dX7_comes_130 rfl inX7 (by decide) tw_915) (Snd.cons (snd_aload_n (i := 0) dX7_comes_133 rfl) (Snd.cons (snd_get (ci := 8) (k := 21) dX7_comes_134 rfl inX7 (by decide) tw_935) (Snd.cons (snd_iconst (v := nI 0) dX7_comes_137 (by decide)) Snd.nil))))
theorem bX7_comes_139_144 {l : Launch} {E : XE} : Snd l E mX7_comes 139 144 (xs [x_aload 0, x_get 8 21, x_push (.int (nI 1))]) := Snd.cons (snd_aload_n (i := 0) dX7_comes_139 rfl) (Snd.cons (snd_get (ci := 8) (k := 21) dX7_comes_140 rfl inX7 (by decide) tw_935) (Snd.cons (snd_iconst (v := nI 1) dX7_comes_143 (by decide)) Snd.nil))
theorem bX7_comes_146_155 {l : Launch} {E : XE} : Snd l E mX7_comes 146 155 (xs [x_aload 0, x_get 8 2, x_aload 0, x_get 8 21, x_push (.int (nI 0))]) := Snd.cons (snd_aload_n (i := 0) dX7_comes_146 rfl) (Snd.cons (snd_get (ci := 8) (k := 2) dX7_comes_147 rfl inX7 (by decide) tw_916) (Snd.cons (snd_aload_n (i := 0) dX7_comes_150 rfl) (Snd.cons (snd_get (ci := 8) (k := 21) dX7_comes_151 rfl inX7 (by decide) tw_935) (Snd.cons (snd_iconst (v := nI 0) dX7_comes_154 (by decide)) Snd.nil))))
theorem bX7_comes_156_161 {l : Launch} {E : XE} : Snd l E mX7_comes 156 161 (xs [x_aload 0, x_get 8 21, x_push (.int (nI 2))]) := Snd.cons (snd_aload_n (i := 0) dX7_comes_156 rfl) (Snd.cons (snd_get (ci := 8) (k := 21) dX7_comes_157 rfl inX7 (by decide) tw_935) (Snd.cons (snd_iconst (v := nI 2) dX7_comes_160 (by decide)) Snd.nil))
theorem bX7_comes_163_203 {l : Launch} {E : XE} : Snd l E mX7_comes 163 203 (xs [x_id]) := Snd.cons (snd_goto (tgt := 203) dX7_comes_163 (by decide)) Snd.nil
set_option maxHeartbeats 4000000 in
set_option maxRecDepth 100000 in
theorem m_X7_comes_2 {l : Launch} {E : XE} (S : SaleN) (X : ModN) (K : Option (Nat → Nat)) (hk : X.tt 0 < 5) : MetE l E mX7_comes (0) 0 0 [.ref 0, .int (nI (2))] (modW 0 S X K) (fun r w' => r = none ∧ w' = modW 0 ((kindS S (X.tt 0) (X.tt 1) (X.tt 2))) ((X.rf, X.wo, X.ta, X.ow, 1, X.sh, X.lt, X.ty, X.pl, X.nu, X.od, X.tt, X.oo, X.on, X.wn, X.pd, X.li, X.rr, X.rn, X.dr) : ModN) K) := by
  refine MetE.of (by decide +kernel) (Nat.le_of_ble_eq_true rfl) ?_
  refine ev_eq (lv' := [(0, .ref 0), (1, .int (nI (2)))]) (st' := []) (w' := modW 0 S X K) rfl rfl rfl ?_
  refine ev_b bX7_comes_0_2 (lv' := [(0, .ref 0), (1, .int (nI (2)))]) (st' := [.int (nI (1)), .ref 0]) (w2 := modW 0 S X K) rfl ?_
  refine snd_put (ci := 8) (k := 12) (a := 0) dX7_comes_2 rfl inX7 tyX7_ok nmX7 (by decide) tw_926 rfl rfl (Nat.le_of_ble_eq_true rfl) (fun _ => rfl) (fun _ => rfl) ?_
  refine ev_eq (w' := modW 0 S ((X.rf, X.wo, X.ta, X.ow, 1, X.sh, X.lt, X.ty, X.pl, X.nu, X.od, X.tt, X.oo, X.on, X.wn, X.pd, X.li, X.rr, X.rn, X.dr) : ModN) K) rfl rfl rfl ?_
  refine ev_b bX7_comes_5_6 (lv' := [(0, .ref 0), (1, .int (nI (2)))]) (st' := [.int (nI (2))]) (w2 := modW 0 S ((X.rf, X.wo, X.ta, X.ow, 1, X.sh, X.lt, X.ty, X.pl, X.nu, X.od, X.tt, X.oo, X.on, X.wn, X.pd, X.li, X.rr, X.rn, X.dr) : ModN) K) rfl ?_
  refine ev_tableIn (off := 123) (tgt := 129) dX7_comes_6 (by decide) (by decide) (by decide) (by decide) ?_
  refine ev_b bX7_comes_129_138 (lv' := [(0, .ref 0), (1, .int (nI (2)))]) (st' := [.int (nI (0)), .ref 14, .ref 2]) (w2 := modW 0 S ((X.rf, X.wo, X.ta, X.ow, 1, X.sh, X.lt, X.ty, X.pl, X.nu, X.od, X.tt, X.oo, X.on, X.wn, X.pd, X.li, X.rr, X.rn, X.dr) : ModN) K) rfl ?_
  refine ev_iald_n (f := X.tt) dX7_comes_138 rfl (by omega) (by decide) ?_
  refine ev_b bX7_comes_139_144 (lv' := [(0, .ref 0), (1, .int (nI (2)))]) (st' := [.int (nI (1)), .ref 14, .int (nI (X.tt 0)), .ref 2]) (w2 := modW 0 S ((X.rf, X.wo, X.ta, X.ow, 1, X.sh, X.lt, X.ty, X.pl, X.nu, X.od, X.tt, X.oo, X.on, X.wn, X.pd, X.li, X.rr, X.rn, X.dr) : ModN) K) rfl ?_
  refine ev_iald_n (f := X.tt) dX7_comes_144 rfl (by omega) (by decide) ?_
  refine ev_iast_n (f := S.kd) dX7_comes_145 rfl (by omega) (by decide) ?_
  refine ev_eq (w' := modW 0 ((S.bd, S.st, S.pr, S.ow, up S.kd (X.tt 0) (X.tt 1), S.fg, S.rs, S.ca, S.ac) : SaleN) ((X.rf, X.wo, X.ta, X.ow, 1, X.sh, X.lt, X.ty, X.pl, X.nu, X.od, X.tt, X.oo, X.on, X.wn, X.pd, X.li, X.rr, X.rn, X.dr) : ModN) K) rfl rfl rfl ?_
  refine ev_b bX7_comes_146_155 (lv' := [(0, .ref 0), (1, .int (nI (2)))]) (st' := [.int (nI (0)), .ref 14, .ref 3]) (w2 := modW 0 ((S.bd, S.st, S.pr, S.ow, up S.kd (X.tt 0) (X.tt 1), S.fg, S.rs, S.ca, S.ac) : SaleN) ((X.rf, X.wo, X.ta, X.ow, 1, X.sh, X.lt, X.ty, X.pl, X.nu, X.od, X.tt, X.oo, X.on, X.wn, X.pd, X.li, X.rr, X.rn, X.dr) : ModN) K) rfl ?_
  refine ev_iald_n (f := X.tt) dX7_comes_155 rfl (by omega) (by decide) ?_
  refine ev_b bX7_comes_156_161 (lv' := [(0, .ref 0), (1, .int (nI (2)))]) (st' := [.int (nI (2)), .ref 14, .int (nI (X.tt 0)), .ref 3]) (w2 := modW 0 ((S.bd, S.st, S.pr, S.ow, up S.kd (X.tt 0) (X.tt 1), S.fg, S.rs, S.ca, S.ac) : SaleN) ((X.rf, X.wo, X.ta, X.ow, 1, X.sh, X.lt, X.ty, X.pl, X.nu, X.od, X.tt, X.oo, X.on, X.wn, X.pd, X.li, X.rr, X.rn, X.dr) : ModN) K) rfl ?_
  refine ev_iald_n (f := X.tt) dX7_comes_161 rfl (by omega) (by decide) ?_
  refine ev_iast_n (f := S.fg) dX7_comes_162 rfl (by omega) (by decide) ?_
  refine ev_eq (w' := modW 0 ((S.bd, S.st, S.pr, S.ow, up S.kd (X.tt 0) (X.tt 1), up S.fg (X.tt 0) (X.tt 2), S.rs, S.ca, S.ac) : SaleN) ((X.rf, X.wo, X.ta, X.ow, 1, X.sh, X.lt, X.ty, X.pl, X.nu, X.od, X.tt, X.oo, X.on, X.wn, X.pd, X.li, X.rr, X.rn, X.dr) : ModN) K) rfl rfl rfl ?_
  refine ev_b bX7_comes_163_203 (lv' := [(0, .ref 0), (1, .int (nI (2)))]) (st' := []) (w2 := modW 0 ((S.bd, S.st, S.pr, S.ow, up S.kd (X.tt 0) (X.tt 1), up S.fg (X.tt 0) (X.tt 2), S.rs, S.ca, S.ac) : SaleN) ((X.rf, X.wo, X.ta, X.ow, 1, X.sh, X.lt, X.ty, X.pl, X.nu, X.od, X.tt, X.oo, X.on, X.wn, X.pd, X.li, X.rr, X.rn, X.dr) : ModN) K) rfl ?_
  exact ev_vret dX7_comes_203 rfl mod_le (Nat.le_refl _) (Nat.le_refl _) ⟨rfl, (by rfl)⟩
theorem bX7_comes_166_175 {l : Launch} {E : XE} : Snd l E mX7_comes 166 175 (xs [x_aload 0, x_get 8 0, x_aload 0, x_get 8 21, x_push (.int (nI 0))]) := Snd.cons (snd_aload_n (i := 0) dX7_comes_166 rfl) (Snd.cons (snd_get (ci := 8) (k := 0) dX7_comes_167 rfl inX7 (by decide) tw_914) (Snd.cons (snd_aload_n (i := 0) dX7_comes_170 rfl) (Snd.cons (snd_get (ci := 8) (k := 21) dX7_comes_171 rfl inX7 (by decide) tw_935) (Snd.cons (snd_iconst (v := nI 0) dX7_comes_174 (by decide)) Snd.nil))))
theorem bX7_comes_176_181 {l : Launch} {E : XE} : Snd l E mX7_comes 176 181 (xs [x_aload 0, x_get 8 21, x_push (.int (nI 1))]) := Snd.cons (snd_aload_n (i := 0) dX7_comes_176 rfl) (Snd.cons (snd_get (ci := 8) (k := 21) dX7_comes_177 rfl inX7 (by decide) tw_935) (Snd.cons (snd_iconst (v := nI 1) dX7_comes_180 (by decide)) Snd.nil))
theorem bX7_comes_183_203 {l : Launch} {E : XE} : Snd l E mX7_comes 183 203 (xs [x_id]) := Snd.cons (snd_goto (tgt := 203) dX7_comes_183 (by decide)) Snd.nil
set_option maxHeartbeats 4000000 in
set_option maxRecDepth 100000 in
theorem m_X7_comes_3 {l : Launch} {E : XE} (S : SaleN) (X : ModN) (K : Option (Nat → Nat)) (hk : X.tt 0 < 6) : MetE l E mX7_comes (0) 0 0 [.ref 0, .int (nI (3))] (modW 0 S X K) (fun r w' => r = none ∧ w' = modW 0 ((keepS S (X.tt 0) (X.tt 1))) ((X.rf, X.wo, X.ta, X.ow, 1, X.sh, X.lt, X.ty, X.pl, X.nu, X.od, X.tt, X.oo, X.on, X.wn, X.pd, X.li, X.rr, X.rn, X.dr) : ModN) K) := by
  refine MetE.of (by decide +kernel) (Nat.le_of_ble_eq_true rfl) ?_
  refine ev_eq (lv' := [(0, .ref 0), (1, .int (nI (3)))]) (st' := []) (w' := modW 0 S X K) rfl rfl rfl ?_
  refine ev_b bX7_comes_0_2 (lv' := [(0, .ref 0), (1, .int (nI (3)))]) (st' := [.int (nI (1)), .ref 0]) (w2 := modW 0 S X K) rfl ?_
  refine snd_put (ci := 8) (k := 12) (a := 0) dX7_comes_2 rfl inX7 tyX7_ok nmX7 (by decide) tw_926 rfl rfl (Nat.le_of_ble_eq_true rfl) (fun _ => rfl) (fun _ => rfl) ?_
  refine ev_eq (w' := modW 0 S ((X.rf, X.wo, X.ta, X.ow, 1, X.sh, X.lt, X.ty, X.pl, X.nu, X.od, X.tt, X.oo, X.on, X.wn, X.pd, X.li, X.rr, X.rn, X.dr) : ModN) K) rfl rfl rfl ?_
  refine ev_b bX7_comes_5_6 (lv' := [(0, .ref 0), (1, .int (nI (3)))]) (st' := [.int (nI (3))]) (w2 := modW 0 S ((X.rf, X.wo, X.ta, X.ow, 1, X.sh, X.lt, X.ty, X.pl, X.nu, X.od, X.tt, X.oo, X.on, X.wn, X.pd, X.li, X.rr, X.rn, X.dr) : ModN) K) rfl ?_
  refine ev_tableIn (off := 160) (tgt := 166) dX7_comes_6 (by decide) (by decide) (by decide) (by decide) ?_
  refine ev_b bX7_comes_166_175 (lv' := [(0, .ref 0), (1, .int (nI (3)))]) (st' := [.int (nI (0)), .ref 14, .ref 1]) (w2 := modW 0 S ((X.rf, X.wo, X.ta, X.ow, 1, X.sh, X.lt, X.ty, X.pl, X.nu, X.od, X.tt, X.oo, X.on, X.wn, X.pd, X.li, X.rr, X.rn, X.dr) : ModN) K) rfl ?_
  refine ev_iald_n (f := X.tt) dX7_comes_175 rfl (by omega) (by decide) ?_
  refine ev_b bX7_comes_176_181 (lv' := [(0, .ref 0), (1, .int (nI (3)))]) (st' := [.int (nI (1)), .ref 14, .int (nI (X.tt 0)), .ref 1]) (w2 := modW 0 S ((X.rf, X.wo, X.ta, X.ow, 1, X.sh, X.lt, X.ty, X.pl, X.nu, X.od, X.tt, X.oo, X.on, X.wn, X.pd, X.li, X.rr, X.rn, X.dr) : ModN) K) rfl ?_
  refine ev_iald_n (f := X.tt) dX7_comes_181 rfl (by omega) (by decide) ?_
  refine ev_iast_n (f := S.rs) dX7_comes_182 rfl (by omega) (by decide) ?_
  refine ev_eq (w' := modW 0 ((S.bd, S.st, S.pr, S.ow, S.kd, S.fg, up S.rs (X.tt 0) (X.tt 1), S.ca, S.ac) : SaleN) ((X.rf, X.wo, X.ta, X.ow, 1, X.sh, X.lt, X.ty, X.pl, X.nu, X.od, X.tt, X.oo, X.on, X.wn, X.pd, X.li, X.rr, X.rn, X.dr) : ModN) K) rfl rfl rfl ?_
  refine ev_b bX7_comes_183_203 (lv' := [(0, .ref 0), (1, .int (nI (3)))]) (st' := []) (w2 := modW 0 ((S.bd, S.st, S.pr, S.ow, S.kd, S.fg, up S.rs (X.tt 0) (X.tt 1), S.ca, S.ac) : SaleN) ((X.rf, X.wo, X.ta, X.ow, 1, X.sh, X.lt, X.ty, X.pl, X.nu, X.od, X.tt, X.oo, X.on, X.wn, X.pd, X.li, X.rr, X.rn, X.dr) : ModN) K) rfl ?_
  exact ev_vret dX7_comes_203 rfl mod_le (Nat.le_refl _) (Nat.le_refl _) ⟨rfl, (by rfl)⟩
theorem bX7_comes_186_195 {l : Launch} {E : XE} : Snd l E mX7_comes 186 195 (xs [x_aload 0, x_get 8 5, x_aload 0, x_get 8 21, x_push (.int (nI 0))]) := Snd.cons (snd_aload_n (i := 0) dX7_comes_186 rfl) (Snd.cons (snd_get (ci := 8) (k := 5) dX7_comes_187 rfl inX7 (by decide) tw_919) (Snd.cons (snd_aload_n (i := 0) dX7_comes_190 rfl) (Snd.cons (snd_get (ci := 8) (k := 21) dX7_comes_191 rfl inX7 (by decide) tw_935) (Snd.cons (snd_iconst (v := nI 0) dX7_comes_194 (by decide)) Snd.nil))))
theorem bX7_comes_196_201 {l : Launch} {E : XE} : Snd l E mX7_comes 196 201 (xs [x_aload 0, x_get 8 21, x_push (.int (nI 1))]) := Snd.cons (snd_aload_n (i := 0) dX7_comes_196 rfl) (Snd.cons (snd_get (ci := 8) (k := 21) dX7_comes_197 rfl inX7 (by decide) tw_935) (Snd.cons (snd_iconst (v := nI 1) dX7_comes_200 (by decide)) Snd.nil))
set_option maxHeartbeats 4000000 in
set_option maxRecDepth 100000 in
theorem m_X7_comes_4 {l : Launch} {E : XE} (S : SaleN) (X : ModN) (K : Option (Nat → Nat)) (hk : X.tt 0 < 10) : MetE l E mX7_comes (0) 0 0 [.ref 0, .int (nI (4))] (modW 0 S X K) (fun r w' => r = none ∧ w' = modW 0 ((priceS S (X.tt 0) (X.tt 1))) ((X.rf, X.wo, X.ta, X.ow, 1, X.sh, X.lt, X.ty, X.pl, X.nu, X.od, X.tt, X.oo, X.on, X.wn, X.pd, X.li, X.rr, X.rn, X.dr) : ModN) K) := by
  refine MetE.of (by decide +kernel) (Nat.le_of_ble_eq_true rfl) ?_
  refine ev_eq (lv' := [(0, .ref 0), (1, .int (nI (4)))]) (st' := []) (w' := modW 0 S X K) rfl rfl rfl ?_
  refine ev_b bX7_comes_0_2 (lv' := [(0, .ref 0), (1, .int (nI (4)))]) (st' := [.int (nI (1)), .ref 0]) (w2 := modW 0 S X K) rfl ?_
  refine snd_put (ci := 8) (k := 12) (a := 0) dX7_comes_2 rfl inX7 tyX7_ok nmX7 (by decide) tw_926 rfl rfl (Nat.le_of_ble_eq_true rfl) (fun _ => rfl) (fun _ => rfl) ?_
  refine ev_eq (w' := modW 0 S ((X.rf, X.wo, X.ta, X.ow, 1, X.sh, X.lt, X.ty, X.pl, X.nu, X.od, X.tt, X.oo, X.on, X.wn, X.pd, X.li, X.rr, X.rn, X.dr) : ModN) K) rfl rfl rfl ?_
  refine ev_b bX7_comes_5_6 (lv' := [(0, .ref 0), (1, .int (nI (4)))]) (st' := [.int (nI (4))]) (w2 := modW 0 S ((X.rf, X.wo, X.ta, X.ow, 1, X.sh, X.lt, X.ty, X.pl, X.nu, X.od, X.tt, X.oo, X.on, X.wn, X.pd, X.li, X.rr, X.rn, X.dr) : ModN) K) rfl ?_
  refine ev_tableOut (tgt := 186) dX7_comes_6 (by decide) (by decide) ?_
  refine ev_b bX7_comes_186_195 (lv' := [(0, .ref 0), (1, .int (nI (4)))]) (st' := [.int (nI (0)), .ref 14, .ref 6]) (w2 := modW 0 S ((X.rf, X.wo, X.ta, X.ow, 1, X.sh, X.lt, X.ty, X.pl, X.nu, X.od, X.tt, X.oo, X.on, X.wn, X.pd, X.li, X.rr, X.rn, X.dr) : ModN) K) rfl ?_
  refine ev_iald_n (f := X.tt) dX7_comes_195 rfl (by omega) (by decide) ?_
  refine ev_b bX7_comes_196_201 (lv' := [(0, .ref 0), (1, .int (nI (4)))]) (st' := [.int (nI (1)), .ref 14, .int (nI (X.tt 0)), .ref 6]) (w2 := modW 0 S ((X.rf, X.wo, X.ta, X.ow, 1, X.sh, X.lt, X.ty, X.pl, X.nu, X.od, X.tt, X.oo, X.on, X.wn, X.pd, X.li, X.rr, X.rn, X.dr) : ModN) K) rfl ?_
  refine ev_iald_n (f := X.tt) dX7_comes_201 rfl (by omega) (by decide) ?_
  refine ev_iast_n (f := S.pr) dX7_comes_202 rfl (by omega) (by decide) ?_
  refine ev_eq (w' := modW 0 ((S.bd, S.st, up S.pr (X.tt 0) (X.tt 1), S.ow, S.kd, S.fg, S.rs, S.ca, S.ac) : SaleN) ((X.rf, X.wo, X.ta, X.ow, 1, X.sh, X.lt, X.ty, X.pl, X.nu, X.od, X.tt, X.oo, X.on, X.wn, X.pd, X.li, X.rr, X.rn, X.dr) : ModN) K) rfl rfl rfl ?_
  exact ev_vret dX7_comes_203 rfl mod_le (Nat.le_refl _) (Nat.le_refl _) ⟨rfl, (by rfl)⟩
theorem bX7_bids_0_3 {l : Launch} {E : XE} : Snd l E mX7_bids 0 3 (xs [x_iload 1, x_push (.int (nI 0)), x_push (.int (nI 4))]) := Snd.cons (snd_iload_n (i := 1) dX7_bids_0 rfl) (Snd.cons (snd_iconst (v := nI 0) dX7_bids_1 (by decide)) (Snd.cons (snd_iconst (v := nI 4) dX7_bids_2 (by decide)) Snd.nil))
theorem bX7_bids_9_11 {l : Launch} {E : XE} : Snd l E mX7_bids 9 11 (xs [x_aload 0, x_push (.int (-1))]) := Snd.cons (snd_aload_n (i := 0) dX7_bids_9 rfl) (Snd.cons (snd_iconst (v := -1) dX7_bids_10 (by decide)) Snd.nil)
set_option maxHeartbeats 4000000 in
set_option maxRecDepth 100000 in
theorem q_bids_1 {l : Launch} {E : XE} (S : SaleN) (X : ModN) (K : Option (Nat → Nat)) (z1 z2 z3 : Int) (hS : SaleOK S) (hM : MOK S X) (rz1 : -2147483648 ≤ z1 ∧ z1 < 2147483648) (rz2 : -2147483648 ≤ z2 ∧ z2 < 2147483648) (rz3 : -2147483648 ≤ z3 ∧ z3 < 2147483648) (h : ¬ (0 ≤ z1 ∧ z1 < 5)) : MetE l E mX7_bids (1) 0 0 [.ref 0, .int (zI (z1)), .int (zI (z2)), .int (zI (z3))] (modW 0 S X K) (MP S K (X.lt) (X.ty) (X.rr) (X.rn) ((up X.rf 1 (X.rf 1 + 1))) (some (.int (-1)))) := by
  refine MetE.of (by decide +kernel) (Nat.le_of_ble_eq_true rfl) ?_
  have hca := hS.1
  have hpw := pow_ca hS
  have hac := ac_lt hS
  have hshl := shl_le hS
  
  refine ev_eq (lv' := [(0, .ref 0), (1, .int (zI (z1))), (2, .int (zI (z2))), (3, .int (zI (z3)))]) (st' := []) (w' := modW 0 S X K) rfl rfl rfl ?_
  refine ev_b bX7_bids_0_3 (lv' := [(0, .ref 0), (1, .int (zI (z1))), (2, .int (zI (z2))), (3, .int (zI (z3)))]) (st' := [.int (nI (4)), .int (nI (0)), .int (zI (z1))]) (w2 := modW 0 S X K) rfl ?_
  refine ev_callS (Yc := mX7_isIn) [] dX7_bids_3 tw_1036 kX7_isIn (m_X7_isIn_z z1 0 4 rz1 (by decide) (by decide)) rfl (st := []) rfl (by decide) rfl (by decide) (Nat.le_of_ble_eq_true rfl) (Nat.le_refl _) (Nat.le_refl _) (fun r w' h => by obtain ⟨-, rfl⟩ := h; exact Nat.le_of_ble_eq_true rfl) ?_
  rintro _ _ ⟨rfl, rfl⟩
  refine ev_eq (lv' := [(0, .ref 0), (1, .int (zI (z1))), (2, .int (zI (z2))), (3, .int (zI (z3)))]) (st' := [.int (nI (b01 (((0 : Nat) : Int) ≤ z1 ∧ z1 ≤ ((4 : Nat) : Int))))]) (w' := modW 0 S X K) rfl rfl rfl ?_
  refine ev_ifne_b (tgt := 15) dX7_bids_6 (by decide) (fun h6 => (by exfalso; omega)) (fun h6 => ?_)
  refine ev_b bX7_bids_9_11 (lv' := [(0, .ref 0), (1, .int (zI (z1))), (2, .int (zI (z2))), (3, .int (zI (z3)))]) (st' := [.int (-1), .ref 0]) (w2 := modW 0 S X K) rfl ?_
  refine ev_callM (Yc := mX7_refuses) (st := []) dX7_bids_11 tw_1012 kX7_refuses (m_X7_refuses_1 S X K) rfl rfl rfl rfl (by decide) (Nat.le_of_ble_eq_true rfl) (Nat.le_refl _) (Nat.le_refl _) (fun r w' h => by obtain ⟨-, rfl⟩ := h; exact mod_eq) ?_
  rintro _ _ ⟨rfl, rfl⟩
  refine ev_eq (lv' := [(0, .ref 0), (1, .int (zI (z1))), (2, .int (zI (z2))), (3, .int (zI (z3)))]) (st' := [.int (-1)]) (w' := modW 0 S (((up X.rf 1 (X.rf 1 + 1)), X.wo, X.ta, X.ow, X.sl, X.sh, X.lt, X.ty, X.pl, X.nu, X.od, X.tt, X.oo, X.on, X.wn, X.pd, X.li, X.rr, X.rn, X.dr) : ModN) K) rfl rfl rfl ?_
  exact ev_iret dX7_bids_14 rfl mod_le (Nat.le_refl _) (Nat.le_refl _) ⟨rfl, _, rfl, hM, rfl, rfl, rfl, rfl, rfl⟩
theorem bX7_bids_15_17 {l : Launch} {E : XE} : Snd l E mX7_bids 15 17 (xs [x_iload 2, x_push (.int (nI 1))]) := Snd.cons (snd_iload_n (i := 2) dX7_bids_15 rfl) (Snd.cons (snd_iconst (v := nI 1) dX7_bids_16 (by decide)) Snd.nil)
theorem bX7_bids_25_28 {l : Launch} {E : XE} : Snd l E mX7_bids 25 28 (xs [x_aload 0, x_push (.int (-4))]) := Snd.cons (snd_aload_n (i := 0) dX7_bids_25 rfl) (Snd.cons (snd_bipush (v := -4) dX7_bids_26 (by decide)) Snd.nil)
set_option maxHeartbeats 4000000 in
set_option maxRecDepth 100000 in
theorem q_bids_4a {l : Launch} {E : XE} (S : SaleN) (X : ModN) (K : Option (Nat → Nat)) (z1 z2 z3 : Int) (hS : SaleOK S) (hM : MOK S X) (rz1 : -2147483648 ≤ z1 ∧ z1 < 2147483648) (rz2 : -2147483648 ≤ z2 ∧ z2 < 2147483648) (rz3 : -2147483648 ≤ z3 ∧ z3 < 2147483648) (h : 0 ≤ z1 ∧ z1 < 5) (h2 : z2 < 1) : MetE l E mX7_bids (1) 0 0 [.ref 0, .int (zI (z1)), .int (zI (z2)), .int (zI (z3))] (modW 0 S X K) (MP S K (X.lt) (X.ty) (X.rr) (X.rn) ((up X.rf 4 (X.rf 4 + 1))) (some (.int (-4)))) := by
  refine MetE.of (by decide +kernel) (Nat.le_of_ble_eq_true rfl) ?_
  have hca := hS.1
  have hpw := pow_ca hS
  have hac := ac_lt hS
  have hshl := shl_le hS
  
  refine ev_eq (lv' := [(0, .ref 0), (1, .int (zI (z1))), (2, .int (zI (z2))), (3, .int (zI (z3)))]) (st' := []) (w' := modW 0 S X K) rfl rfl rfl ?_
  refine ev_b bX7_bids_0_3 (lv' := [(0, .ref 0), (1, .int (zI (z1))), (2, .int (zI (z2))), (3, .int (zI (z3)))]) (st' := [.int (nI (4)), .int (nI (0)), .int (zI (z1))]) (w2 := modW 0 S X K) rfl ?_
  refine ev_callS (Yc := mX7_isIn) [] dX7_bids_3 tw_1036 kX7_isIn (m_X7_isIn_z z1 0 4 rz1 (by decide) (by decide)) rfl (st := []) rfl (by decide) rfl (by decide) (Nat.le_of_ble_eq_true rfl) (Nat.le_refl _) (Nat.le_refl _) (fun r w' h => by obtain ⟨-, rfl⟩ := h; exact Nat.le_of_ble_eq_true rfl) ?_
  rintro _ _ ⟨rfl, rfl⟩
  refine ev_eq (lv' := [(0, .ref 0), (1, .int (zI (z1))), (2, .int (zI (z2))), (3, .int (zI (z3)))]) (st' := [.int (nI (b01 (((0 : Nat) : Int) ≤ z1 ∧ z1 ≤ ((4 : Nat) : Int))))]) (w' := modW 0 S X K) rfl rfl rfl ?_
  refine ev_ifne_b (tgt := 15) dX7_bids_6 (by decide) (fun h6 => ?_) (fun h6 => (by exfalso; omega))
  refine ev_b bX7_bids_15_17 (lv' := [(0, .ref 0), (1, .int (zI (z1))), (2, .int (zI (z2))), (3, .int (zI (z3)))]) (st' := [.int (nI (1)), .int (zI (z2))]) (w2 := modW 0 S X K) rfl ?_
  refine ev_top (y := zI (((1 : Nat) : Int))) (zI_nat _).symm ?_
  refine ev_icmp_lt_z (tgt := 25) (by constructor <;> omega) (by constructor <;> omega) dX7_bids_17 (by decide) (fun h17 => ?_) (fun h17 => (by exfalso; omega))
  refine ev_b bX7_bids_25_28 (lv' := [(0, .ref 0), (1, .int (zI (z1))), (2, .int (zI (z2))), (3, .int (zI (z3)))]) (st' := [.int (-4), .ref 0]) (w2 := modW 0 S X K) rfl ?_
  refine ev_callM (Yc := mX7_refuses) (st := []) dX7_bids_28 tw_1012 kX7_refuses (m_X7_refuses_4 S X K) rfl rfl rfl rfl (by decide) (Nat.le_of_ble_eq_true rfl) (Nat.le_refl _) (Nat.le_refl _) (fun r w' h => by obtain ⟨-, rfl⟩ := h; exact mod_eq) ?_
  rintro _ _ ⟨rfl, rfl⟩
  refine ev_eq (lv' := [(0, .ref 0), (1, .int (zI (z1))), (2, .int (zI (z2))), (3, .int (zI (z3)))]) (st' := [.int (-4)]) (w' := modW 0 S (((up X.rf 4 (X.rf 4 + 1)), X.wo, X.ta, X.ow, X.sl, X.sh, X.lt, X.ty, X.pl, X.nu, X.od, X.tt, X.oo, X.on, X.wn, X.pd, X.li, X.rr, X.rn, X.dr) : ModN) K) rfl rfl rfl ?_
  exact ev_iret dX7_bids_31 rfl mod_le (Nat.le_refl _) (Nat.le_refl _) ⟨rfl, _, rfl, hM, rfl, rfl, rfl, rfl, rfl⟩
theorem bX7_bids_20_22 {l : Launch} {E : XE} : Snd l E mX7_bids 20 22 (xs [x_iload 3, x_push (.int (nI 1))]) := Snd.cons (snd_iload_n (i := 3) dX7_bids_20 rfl) (Snd.cons (snd_iconst (v := nI 1) dX7_bids_21 (by decide)) Snd.nil)
set_option maxHeartbeats 4000000 in
set_option maxRecDepth 100000 in
theorem q_bids_4b {l : Launch} {E : XE} (S : SaleN) (X : ModN) (K : Option (Nat → Nat)) (z1 z2 z3 : Int) (hS : SaleOK S) (hM : MOK S X) (rz1 : -2147483648 ≤ z1 ∧ z1 < 2147483648) (rz2 : -2147483648 ≤ z2 ∧ z2 < 2147483648) (rz3 : -2147483648 ≤ z3 ∧ z3 < 2147483648) (h : 0 ≤ z1 ∧ z1 < 5) (h2 : 1 ≤ z2) (h3 : z3 < 1) : MetE l E mX7_bids (1) 0 0 [.ref 0, .int (zI (z1)), .int (zI (z2)), .int (zI (z3))] (modW 0 S X K) (MP S K (X.lt) (X.ty) (X.rr) (X.rn) ((up X.rf 4 (X.rf 4 + 1))) (some (.int (-4)))) := by
  refine MetE.of (by decide +kernel) (Nat.le_of_ble_eq_true rfl) ?_
  have hca := hS.1
  have hpw := pow_ca hS
  have hac := ac_lt hS
  have hshl := shl_le hS
  
  refine ev_eq (lv' := [(0, .ref 0), (1, .int (zI (z1))), (2, .int (zI (z2))), (3, .int (zI (z3)))]) (st' := []) (w' := modW 0 S X K) rfl rfl rfl ?_
  refine ev_b bX7_bids_0_3 (lv' := [(0, .ref 0), (1, .int (zI (z1))), (2, .int (zI (z2))), (3, .int (zI (z3)))]) (st' := [.int (nI (4)), .int (nI (0)), .int (zI (z1))]) (w2 := modW 0 S X K) rfl ?_
  refine ev_callS (Yc := mX7_isIn) [] dX7_bids_3 tw_1036 kX7_isIn (m_X7_isIn_z z1 0 4 rz1 (by decide) (by decide)) rfl (st := []) rfl (by decide) rfl (by decide) (Nat.le_of_ble_eq_true rfl) (Nat.le_refl _) (Nat.le_refl _) (fun r w' h => by obtain ⟨-, rfl⟩ := h; exact Nat.le_of_ble_eq_true rfl) ?_
  rintro _ _ ⟨rfl, rfl⟩
  refine ev_eq (lv' := [(0, .ref 0), (1, .int (zI (z1))), (2, .int (zI (z2))), (3, .int (zI (z3)))]) (st' := [.int (nI (b01 (((0 : Nat) : Int) ≤ z1 ∧ z1 ≤ ((4 : Nat) : Int))))]) (w' := modW 0 S X K) rfl rfl rfl ?_
  refine ev_ifne_b (tgt := 15) dX7_bids_6 (by decide) (fun h6 => ?_) (fun h6 => (by exfalso; omega))
  refine ev_b bX7_bids_15_17 (lv' := [(0, .ref 0), (1, .int (zI (z1))), (2, .int (zI (z2))), (3, .int (zI (z3)))]) (st' := [.int (nI (1)), .int (zI (z2))]) (w2 := modW 0 S X K) rfl ?_
  refine ev_top (y := zI (((1 : Nat) : Int))) (zI_nat _).symm ?_
  refine ev_icmp_lt_z (tgt := 25) (by constructor <;> omega) (by constructor <;> omega) dX7_bids_17 (by decide) (fun h17 => (by exfalso; omega)) (fun h17 => ?_)
  refine ev_b bX7_bids_20_22 (lv' := [(0, .ref 0), (1, .int (zI (z1))), (2, .int (zI (z2))), (3, .int (zI (z3)))]) (st' := [.int (nI (1)), .int (zI (z3))]) (w2 := modW 0 S X K) rfl ?_
  refine ev_top (y := zI (((1 : Nat) : Int))) (zI_nat _).symm ?_
  refine ev_icmp_ge_z (tgt := 32) (by constructor <;> omega) (by constructor <;> omega) dX7_bids_22 (by decide) (fun h22 => (by exfalso; omega)) (fun h22 => ?_)
  refine ev_b bX7_bids_25_28 (lv' := [(0, .ref 0), (1, .int (zI (z1))), (2, .int (zI (z2))), (3, .int (zI (z3)))]) (st' := [.int (-4), .ref 0]) (w2 := modW 0 S X K) rfl ?_
  refine ev_callM (Yc := mX7_refuses) (st := []) dX7_bids_28 tw_1012 kX7_refuses (m_X7_refuses_4 S X K) rfl rfl rfl rfl (by decide) (Nat.le_of_ble_eq_true rfl) (Nat.le_refl _) (Nat.le_refl _) (fun r w' h => by obtain ⟨-, rfl⟩ := h; exact mod_eq) ?_
  rintro _ _ ⟨rfl, rfl⟩
  refine ev_eq (lv' := [(0, .ref 0), (1, .int (zI (z1))), (2, .int (zI (z2))), (3, .int (zI (z3)))]) (st' := [.int (-4)]) (w' := modW 0 S (((up X.rf 4 (X.rf 4 + 1)), X.wo, X.ta, X.ow, X.sl, X.sh, X.lt, X.ty, X.pl, X.nu, X.od, X.tt, X.oo, X.on, X.wn, X.pd, X.li, X.rr, X.rn, X.dr) : ModN) K) rfl rfl rfl ?_
  exact ev_iret dX7_bids_31 rfl mod_le (Nat.le_refl _) (Nat.le_refl _) ⟨rfl, _, rfl, hM, rfl, rfl, rfl, rfl, rfl⟩
theorem bX7_bids_32_35 {l : Launch} {E : XE} : Snd l E mX7_bids 32 35 (xs [x_iload 2, x_push (.int (nI 63))]) := Snd.cons (snd_iload_n (i := 2) dX7_bids_32 rfl) (Snd.cons (snd_bipush (v := nI 63) dX7_bids_33 (by decide)) Snd.nil)
theorem bX7_bids_53_56 {l : Launch} {E : XE} : Snd l E mX7_bids 53 56 (xs [x_aload 0, x_push (.int (-6))]) := Snd.cons (snd_aload_n (i := 0) dX7_bids_53 rfl) (Snd.cons (snd_bipush (v := -6) dX7_bids_54 (by decide)) Snd.nil)
set_option maxHeartbeats 4000000 in
set_option maxRecDepth 100000 in
theorem q_bids_6a {l : Launch} {E : XE} (S : SaleN) (X : ModN) (K : Option (Nat → Nat)) (z1 z2 z3 : Int) (hS : SaleOK S) (hM : MOK S X) (rz1 : -2147483648 ≤ z1 ∧ z1 < 2147483648) (rz2 : -2147483648 ≤ z2 ∧ z2 < 2147483648) (rz3 : -2147483648 ≤ z3 ∧ z3 < 2147483648) (h : 0 ≤ z1 ∧ z1 < 5) (h2 : 63 < z2) (h3 : 1 ≤ z3) : MetE l E mX7_bids (1) 0 0 [.ref 0, .int (zI (z1)), .int (zI (z2)), .int (zI (z3))] (modW 0 S X K) (MP S K (X.lt) (X.ty) (X.rr) (X.rn) ((up X.rf 6 (X.rf 6 + 1))) (some (.int (-6)))) := by
  refine MetE.of (by decide +kernel) (Nat.le_of_ble_eq_true rfl) ?_
  have hca := hS.1
  have hpw := pow_ca hS
  have hac := ac_lt hS
  have hshl := shl_le hS
  
  refine ev_eq (lv' := [(0, .ref 0), (1, .int (zI (z1))), (2, .int (zI (z2))), (3, .int (zI (z3)))]) (st' := []) (w' := modW 0 S X K) rfl rfl rfl ?_
  refine ev_b bX7_bids_0_3 (lv' := [(0, .ref 0), (1, .int (zI (z1))), (2, .int (zI (z2))), (3, .int (zI (z3)))]) (st' := [.int (nI (4)), .int (nI (0)), .int (zI (z1))]) (w2 := modW 0 S X K) rfl ?_
  refine ev_callS (Yc := mX7_isIn) [] dX7_bids_3 tw_1036 kX7_isIn (m_X7_isIn_z z1 0 4 rz1 (by decide) (by decide)) rfl (st := []) rfl (by decide) rfl (by decide) (Nat.le_of_ble_eq_true rfl) (Nat.le_refl _) (Nat.le_refl _) (fun r w' h => by obtain ⟨-, rfl⟩ := h; exact Nat.le_of_ble_eq_true rfl) ?_
  rintro _ _ ⟨rfl, rfl⟩
  refine ev_eq (lv' := [(0, .ref 0), (1, .int (zI (z1))), (2, .int (zI (z2))), (3, .int (zI (z3)))]) (st' := [.int (nI (b01 (((0 : Nat) : Int) ≤ z1 ∧ z1 ≤ ((4 : Nat) : Int))))]) (w' := modW 0 S X K) rfl rfl rfl ?_
  refine ev_ifne_b (tgt := 15) dX7_bids_6 (by decide) (fun h6 => ?_) (fun h6 => (by exfalso; omega))
  refine ev_b bX7_bids_15_17 (lv' := [(0, .ref 0), (1, .int (zI (z1))), (2, .int (zI (z2))), (3, .int (zI (z3)))]) (st' := [.int (nI (1)), .int (zI (z2))]) (w2 := modW 0 S X K) rfl ?_
  refine ev_top (y := zI (((1 : Nat) : Int))) (zI_nat _).symm ?_
  refine ev_icmp_lt_z (tgt := 25) (by constructor <;> omega) (by constructor <;> omega) dX7_bids_17 (by decide) (fun h17 => (by exfalso; omega)) (fun h17 => ?_)
  refine ev_b bX7_bids_20_22 (lv' := [(0, .ref 0), (1, .int (zI (z1))), (2, .int (zI (z2))), (3, .int (zI (z3)))]) (st' := [.int (nI (1)), .int (zI (z3))]) (w2 := modW 0 S X K) rfl ?_
  refine ev_top (y := zI (((1 : Nat) : Int))) (zI_nat _).symm ?_
  refine ev_icmp_ge_z (tgt := 32) (by constructor <;> omega) (by constructor <;> omega) dX7_bids_22 (by decide) (fun h22 => ?_) (fun h22 => (by exfalso; omega))
  refine ev_b bX7_bids_32_35 (lv' := [(0, .ref 0), (1, .int (zI (z1))), (2, .int (zI (z2))), (3, .int (zI (z3)))]) (st' := [.int (nI (63)), .int (zI (z2))]) (w2 := modW 0 S X K) rfl ?_
  refine ev_top (y := zI (((63 : Nat) : Int))) (zI_nat _).symm ?_
  refine ev_icmp_gt_z (tgt := 53) (by constructor <;> omega) (by constructor <;> omega) dX7_bids_35 (by decide) (fun h35 => ?_) (fun h35 => (by exfalso; omega))
  refine ev_b bX7_bids_53_56 (lv' := [(0, .ref 0), (1, .int (zI (z1))), (2, .int (zI (z2))), (3, .int (zI (z3)))]) (st' := [.int (-6), .ref 0]) (w2 := modW 0 S X K) rfl ?_
  refine ev_callM (Yc := mX7_refuses) (st := []) dX7_bids_56 tw_1012 kX7_refuses (m_X7_refuses_6 S X K) rfl rfl rfl rfl (by decide) (Nat.le_of_ble_eq_true rfl) (Nat.le_refl _) (Nat.le_refl _) (fun r w' h => by obtain ⟨-, rfl⟩ := h; exact mod_eq) ?_
  rintro _ _ ⟨rfl, rfl⟩
  refine ev_eq (lv' := [(0, .ref 0), (1, .int (zI (z1))), (2, .int (zI (z2))), (3, .int (zI (z3)))]) (st' := [.int (-6)]) (w' := modW 0 S (((up X.rf 6 (X.rf 6 + 1)), X.wo, X.ta, X.ow, X.sl, X.sh, X.lt, X.ty, X.pl, X.nu, X.od, X.tt, X.oo, X.on, X.wn, X.pd, X.li, X.rr, X.rn, X.dr) : ModN) K) rfl rfl rfl ?_
  exact ev_iret dX7_bids_59 rfl mod_le (Nat.le_refl _) (Nat.le_refl _) ⟨rfl, _, rfl, hM, rfl, rfl, rfl, rfl, rfl⟩
theorem bX7_bids_38_41 {l : Launch} {E : XE} : Snd l E mX7_bids 38 41 (xs [x_iload 3, x_push (.int (nI 99))]) := Snd.cons (snd_iload_n (i := 3) dX7_bids_38 rfl) (Snd.cons (snd_bipush (v := nI 99) dX7_bids_39 (by decide)) Snd.nil)
set_option maxHeartbeats 4000000 in
set_option maxRecDepth 100000 in
theorem q_bids_6b {l : Launch} {E : XE} (S : SaleN) (X : ModN) (K : Option (Nat → Nat)) (z1 z2 z3 : Int) (hS : SaleOK S) (hM : MOK S X) (rz1 : -2147483648 ≤ z1 ∧ z1 < 2147483648) (rz2 : -2147483648 ≤ z2 ∧ z2 < 2147483648) (rz3 : -2147483648 ≤ z3 ∧ z3 < 2147483648) (h : 0 ≤ z1 ∧ z1 < 5) (h2 : 1 ≤ z2 ∧ z2 ≤ 63) (h3 : 99 < z3) : MetE l E mX7_bids (1) 0 0 [.ref 0, .int (zI (z1)), .int (zI (z2)), .int (zI (z3))] (modW 0 S X K) (MP S K (X.lt) (X.ty) (X.rr) (X.rn) ((up X.rf 6 (X.rf 6 + 1))) (some (.int (-6)))) := by
  refine MetE.of (by decide +kernel) (Nat.le_of_ble_eq_true rfl) ?_
  have hca := hS.1
  have hpw := pow_ca hS
  have hac := ac_lt hS
  have hshl := shl_le hS
  
  refine ev_eq (lv' := [(0, .ref 0), (1, .int (zI (z1))), (2, .int (zI (z2))), (3, .int (zI (z3)))]) (st' := []) (w' := modW 0 S X K) rfl rfl rfl ?_
  refine ev_b bX7_bids_0_3 (lv' := [(0, .ref 0), (1, .int (zI (z1))), (2, .int (zI (z2))), (3, .int (zI (z3)))]) (st' := [.int (nI (4)), .int (nI (0)), .int (zI (z1))]) (w2 := modW 0 S X K) rfl ?_
  refine ev_callS (Yc := mX7_isIn) [] dX7_bids_3 tw_1036 kX7_isIn (m_X7_isIn_z z1 0 4 rz1 (by decide) (by decide)) rfl (st := []) rfl (by decide) rfl (by decide) (Nat.le_of_ble_eq_true rfl) (Nat.le_refl _) (Nat.le_refl _) (fun r w' h => by obtain ⟨-, rfl⟩ := h; exact Nat.le_of_ble_eq_true rfl) ?_
  rintro _ _ ⟨rfl, rfl⟩
  refine ev_eq (lv' := [(0, .ref 0), (1, .int (zI (z1))), (2, .int (zI (z2))), (3, .int (zI (z3)))]) (st' := [.int (nI (b01 (((0 : Nat) : Int) ≤ z1 ∧ z1 ≤ ((4 : Nat) : Int))))]) (w' := modW 0 S X K) rfl rfl rfl ?_
  refine ev_ifne_b (tgt := 15) dX7_bids_6 (by decide) (fun h6 => ?_) (fun h6 => (by exfalso; omega))
  refine ev_b bX7_bids_15_17 (lv' := [(0, .ref 0), (1, .int (zI (z1))), (2, .int (zI (z2))), (3, .int (zI (z3)))]) (st' := [.int (nI (1)), .int (zI (z2))]) (w2 := modW 0 S X K) rfl ?_
  refine ev_top (y := zI (((1 : Nat) : Int))) (zI_nat _).symm ?_
  refine ev_icmp_lt_z (tgt := 25) (by constructor <;> omega) (by constructor <;> omega) dX7_bids_17 (by decide) (fun h17 => (by exfalso; omega)) (fun h17 => ?_)
  refine ev_b bX7_bids_20_22 (lv' := [(0, .ref 0), (1, .int (zI (z1))), (2, .int (zI (z2))), (3, .int (zI (z3)))]) (st' := [.int (nI (1)), .int (zI (z3))]) (w2 := modW 0 S X K) rfl ?_
  refine ev_top (y := zI (((1 : Nat) : Int))) (zI_nat _).symm ?_
  refine ev_icmp_ge_z (tgt := 32) (by constructor <;> omega) (by constructor <;> omega) dX7_bids_22 (by decide) (fun h22 => ?_) (fun h22 => (by exfalso; omega))
  refine ev_b bX7_bids_32_35 (lv' := [(0, .ref 0), (1, .int (zI (z1))), (2, .int (zI (z2))), (3, .int (zI (z3)))]) (st' := [.int (nI (63)), .int (zI (z2))]) (w2 := modW 0 S X K) rfl ?_
  refine ev_top (y := zI (((63 : Nat) : Int))) (zI_nat _).symm ?_
  refine ev_icmp_gt_z (tgt := 53) (by constructor <;> omega) (by constructor <;> omega) dX7_bids_35 (by decide) (fun h35 => (by exfalso; omega)) (fun h35 => ?_)
  refine ev_b bX7_bids_38_41 (lv' := [(0, .ref 0), (1, .int (zI (z1))), (2, .int (zI (z2))), (3, .int (zI (z3)))]) (st' := [.int (nI (99)), .int (zI (z3))]) (w2 := modW 0 S X K) rfl ?_
  refine ev_top (y := zI (((99 : Nat) : Int))) (zI_nat _).symm ?_
  refine ev_icmp_gt_z (tgt := 53) (by constructor <;> omega) (by constructor <;> omega) dX7_bids_41 (by decide) (fun h41 => ?_) (fun h41 => (by exfalso; omega))
  refine ev_b bX7_bids_53_56 (lv' := [(0, .ref 0), (1, .int (zI (z1))), (2, .int (zI (z2))), (3, .int (zI (z3)))]) (st' := [.int (-6), .ref 0]) (w2 := modW 0 S X K) rfl ?_
  refine ev_callM (Yc := mX7_refuses) (st := []) dX7_bids_56 tw_1012 kX7_refuses (m_X7_refuses_6 S X K) rfl rfl rfl rfl (by decide) (Nat.le_of_ble_eq_true rfl) (Nat.le_refl _) (Nat.le_refl _) (fun r w' h => by obtain ⟨-, rfl⟩ := h; exact mod_eq) ?_
  rintro _ _ ⟨rfl, rfl⟩
  refine ev_eq (lv' := [(0, .ref 0), (1, .int (zI (z1))), (2, .int (zI (z2))), (3, .int (zI (z3)))]) (st' := [.int (-6)]) (w' := modW 0 S (((up X.rf 6 (X.rf 6 + 1)), X.wo, X.ta, X.ow, X.sl, X.sh, X.lt, X.ty, X.pl, X.nu, X.od, X.tt, X.oo, X.on, X.wn, X.pd, X.li, X.rr, X.rn, X.dr) : ModN) K) rfl rfl rfl ?_
  exact ev_iret dX7_bids_59 rfl mod_le (Nat.le_refl _) (Nat.le_refl _) ⟨rfl, _, rfl, hM, rfl, rfl, rfl, rfl, rfl⟩
theorem bX7_bids_44_50 {l : Launch} {E : XE} : Snd l E mX7_bids 44 50 (xs [x_aload 0, x_get 8 6, x_push (.int (nI 10))]) := Snd.cons (snd_aload_n (i := 0) dX7_bids_44 rfl) (Snd.cons (snd_get (ci := 8) (k := 6) dX7_bids_45 rfl inX7 (by decide) tw_920) (Snd.cons (snd_bipush (v := nI 10) dX7_bids_48 (by decide)) Snd.nil))
set_option maxHeartbeats 4000000 in
set_option maxRecDepth 100000 in
theorem q_bids_6c {l : Launch} {E : XE} (S : SaleN) (X : ModN) (K : Option (Nat → Nat)) (z1 z2 z3 : Int) (hS : SaleOK S) (hM : MOK S X) (rz1 : -2147483648 ≤ z1 ∧ z1 < 2147483648) (rz2 : -2147483648 ≤ z2 ∧ z2 < 2147483648) (rz3 : -2147483648 ≤ z3 ∧ z3 < 2147483648) (h : 0 ≤ z1 ∧ z1 < 5) (h2 : 1 ≤ z2 ∧ z2 ≤ 63) (h3 : 1 ≤ z3 ∧ z3 ≤ 99) (h4 : S.ca = 10) : MetE l E mX7_bids (1) 0 0 [.ref 0, .int (zI (z1)), .int (zI (z2)), .int (zI (z3))] (modW 0 S X K) (MP S K (X.lt) (X.ty) (X.rr) (X.rn) ((up X.rf 6 (X.rf 6 + 1))) (some (.int (-6)))) := by
  refine MetE.of (by decide +kernel) (Nat.le_of_ble_eq_true rfl) ?_
  have hca := hS.1
  have hpw := pow_ca hS
  have hac := ac_lt hS
  have hshl := shl_le hS
  
  refine ev_eq (lv' := [(0, .ref 0), (1, .int (zI (z1))), (2, .int (zI (z2))), (3, .int (zI (z3)))]) (st' := []) (w' := modW 0 S X K) rfl rfl rfl ?_
  refine ev_b bX7_bids_0_3 (lv' := [(0, .ref 0), (1, .int (zI (z1))), (2, .int (zI (z2))), (3, .int (zI (z3)))]) (st' := [.int (nI (4)), .int (nI (0)), .int (zI (z1))]) (w2 := modW 0 S X K) rfl ?_
  refine ev_callS (Yc := mX7_isIn) [] dX7_bids_3 tw_1036 kX7_isIn (m_X7_isIn_z z1 0 4 rz1 (by decide) (by decide)) rfl (st := []) rfl (by decide) rfl (by decide) (Nat.le_of_ble_eq_true rfl) (Nat.le_refl _) (Nat.le_refl _) (fun r w' h => by obtain ⟨-, rfl⟩ := h; exact Nat.le_of_ble_eq_true rfl) ?_
  rintro _ _ ⟨rfl, rfl⟩
  refine ev_eq (lv' := [(0, .ref 0), (1, .int (zI (z1))), (2, .int (zI (z2))), (3, .int (zI (z3)))]) (st' := [.int (nI (b01 (((0 : Nat) : Int) ≤ z1 ∧ z1 ≤ ((4 : Nat) : Int))))]) (w' := modW 0 S X K) rfl rfl rfl ?_
  refine ev_ifne_b (tgt := 15) dX7_bids_6 (by decide) (fun h6 => ?_) (fun h6 => (by exfalso; omega))
  refine ev_b bX7_bids_15_17 (lv' := [(0, .ref 0), (1, .int (zI (z1))), (2, .int (zI (z2))), (3, .int (zI (z3)))]) (st' := [.int (nI (1)), .int (zI (z2))]) (w2 := modW 0 S X K) rfl ?_
  refine ev_top (y := zI (((1 : Nat) : Int))) (zI_nat _).symm ?_
  refine ev_icmp_lt_z (tgt := 25) (by constructor <;> omega) (by constructor <;> omega) dX7_bids_17 (by decide) (fun h17 => (by exfalso; omega)) (fun h17 => ?_)
  refine ev_b bX7_bids_20_22 (lv' := [(0, .ref 0), (1, .int (zI (z1))), (2, .int (zI (z2))), (3, .int (zI (z3)))]) (st' := [.int (nI (1)), .int (zI (z3))]) (w2 := modW 0 S X K) rfl ?_
  refine ev_top (y := zI (((1 : Nat) : Int))) (zI_nat _).symm ?_
  refine ev_icmp_ge_z (tgt := 32) (by constructor <;> omega) (by constructor <;> omega) dX7_bids_22 (by decide) (fun h22 => ?_) (fun h22 => (by exfalso; omega))
  refine ev_b bX7_bids_32_35 (lv' := [(0, .ref 0), (1, .int (zI (z1))), (2, .int (zI (z2))), (3, .int (zI (z3)))]) (st' := [.int (nI (63)), .int (zI (z2))]) (w2 := modW 0 S X K) rfl ?_
  refine ev_top (y := zI (((63 : Nat) : Int))) (zI_nat _).symm ?_
  refine ev_icmp_gt_z (tgt := 53) (by constructor <;> omega) (by constructor <;> omega) dX7_bids_35 (by decide) (fun h35 => (by exfalso; omega)) (fun h35 => ?_)
  refine ev_b bX7_bids_38_41 (lv' := [(0, .ref 0), (1, .int (zI (z1))), (2, .int (zI (z2))), (3, .int (zI (z3)))]) (st' := [.int (nI (99)), .int (zI (z3))]) (w2 := modW 0 S X K) rfl ?_
  refine ev_top (y := zI (((99 : Nat) : Int))) (zI_nat _).symm ?_
  refine ev_icmp_gt_z (tgt := 53) (by constructor <;> omega) (by constructor <;> omega) dX7_bids_41 (by decide) (fun h41 => (by exfalso; omega)) (fun h41 => ?_)
  refine ev_b bX7_bids_44_50 (lv' := [(0, .ref 0), (1, .int (zI (z1))), (2, .int (zI (z2))), (3, .int (zI (z3)))]) (st' := [.int (nI (10)), .int (nI (S.ca))]) (w2 := modW 0 S X K) rfl ?_
  refine ev_icmp_ne_n (tgt := 60) (by omega) (by decide) dX7_bids_50 (by decide) (fun h50 => (by exfalso; omega)) (fun h50 => ?_)
  refine ev_b bX7_bids_53_56 (lv' := [(0, .ref 0), (1, .int (zI (z1))), (2, .int (zI (z2))), (3, .int (zI (z3)))]) (st' := [.int (-6), .ref 0]) (w2 := modW 0 S X K) rfl ?_
  refine ev_callM (Yc := mX7_refuses) (st := []) dX7_bids_56 tw_1012 kX7_refuses (m_X7_refuses_6 S X K) rfl rfl rfl rfl (by decide) (Nat.le_of_ble_eq_true rfl) (Nat.le_refl _) (Nat.le_refl _) (fun r w' h => by obtain ⟨-, rfl⟩ := h; exact mod_eq) ?_
  rintro _ _ ⟨rfl, rfl⟩
  refine ev_eq (lv' := [(0, .ref 0), (1, .int (zI (z1))), (2, .int (zI (z2))), (3, .int (zI (z3)))]) (st' := [.int (-6)]) (w' := modW 0 S (((up X.rf 6 (X.rf 6 + 1)), X.wo, X.ta, X.ow, X.sl, X.sh, X.lt, X.ty, X.pl, X.nu, X.od, X.tt, X.oo, X.on, X.wn, X.pd, X.li, X.rr, X.rn, X.dr) : ModN) K) rfl rfl rfl ?_
  exact ev_iret dX7_bids_59 rfl mod_le (Nat.le_refl _) (Nat.le_refl _) ⟨rfl, _, rfl, hM, rfl, rfl, rfl, rfl, rfl⟩
theorem bX7_bids_60_66 {l : Launch} {E : XE} : Snd l E mX7_bids 60 66 (xs [x_aload 0, x_get 8 21, x_push (.int (nI 0)), x_iload 1]) := Snd.cons (snd_aload_n (i := 0) dX7_bids_60 rfl) (Snd.cons (snd_get (ci := 8) (k := 21) dX7_bids_61 rfl inX7 (by decide) tw_935) (Snd.cons (snd_iconst (v := nI 0) dX7_bids_64 (by decide)) (Snd.cons (snd_iload_n (i := 1) dX7_bids_65 rfl) Snd.nil)))
theorem bX7_bids_67_73 {l : Launch} {E : XE} : Snd l E mX7_bids 67 73 (xs [x_aload 0, x_get 8 21, x_push (.int (nI 1)), x_iload 2]) := Snd.cons (snd_aload_n (i := 0) dX7_bids_67 rfl) (Snd.cons (snd_get (ci := 8) (k := 21) dX7_bids_68 rfl inX7 (by decide) tw_935) (Snd.cons (snd_iconst (v := nI 1) dX7_bids_71 (by decide)) (Snd.cons (snd_iload_n (i := 2) dX7_bids_72 rfl) Snd.nil)))
theorem bX7_bids_74_80 {l : Launch} {E : XE} : Snd l E mX7_bids 74 80 (xs [x_aload 0, x_get 8 21, x_push (.int (nI 2)), x_iload 3]) := Snd.cons (snd_aload_n (i := 0) dX7_bids_74 rfl) (Snd.cons (snd_get (ci := 8) (k := 21) dX7_bids_75 rfl inX7 (by decide) tw_935) (Snd.cons (snd_iconst (v := nI 2) dX7_bids_78 (by decide)) (Snd.cons (snd_iload_n (i := 3) dX7_bids_79 rfl) Snd.nil)))
theorem bX7_bids_81_83 {l : Launch} {E : XE} : Snd l E mX7_bids 81 83 (xs [x_aload 0, x_push (.int (nI 0))]) := Snd.cons (snd_aload_n (i := 0) dX7_bids_81 rfl) (Snd.cons (snd_iconst (v := nI 0) dX7_bids_82 (by decide)) Snd.nil)
theorem bX7_bids_86_91 {l : Launch} {E : XE} : Snd l E mX7_bids 86 91 (xs [x_aload 0, x_get 8 6, x_push (.int (nI 1))]) := Snd.cons (snd_aload_n (i := 0) dX7_bids_86 rfl) (Snd.cons (snd_get (ci := 8) (k := 6) dX7_bids_87 rfl inX7 (by decide) tw_920) (Snd.cons (snd_iconst (v := nI 1) dX7_bids_90 (by decide)) Snd.nil))
set_option maxHeartbeats 4000000 in
set_option maxRecDepth 100000 in
theorem q_bids_ok {l : Launch} {E : XE} (S : SaleN) (X : ModN) (K : Option (Nat → Nat)) (b set p : Nat) (hS : SaleOK S) (hM : MOK S X) (hb : b < 5) (hs : 1 ≤ set ∧ set ≤ 63) (hp : 1 ≤ p ∧ p ≤ 99) (hc : S.ca < 10) : MetE l E mX7_bids (1) 0 0 [.ref 0, .int (nI (b)), .int (nI (set)), .int (nI (p))] (modW 0 S X K) (MP (addS S b set p) K (X.lt) (X.ty) (X.rr) (X.rn) (X.rf) (some (.int (nI (S.ca))))) := by
  refine MetE.of (by decide +kernel) (Nat.le_of_ble_eq_true rfl) ?_
  have hca := hS.1
  have hpw := pow_ca hS
  have hac := ac_lt hS
  have hshl := shl_le hS
  
  refine ev_eq (lv' := [(0, .ref 0), (1, .int (nI (b))), (2, .int (nI (set))), (3, .int (nI (p)))]) (st' := []) (w' := modW 0 S X K) rfl rfl rfl ?_
  refine ev_b bX7_bids_0_3 (lv' := [(0, .ref 0), (1, .int (nI (b))), (2, .int (nI (set))), (3, .int (nI (p)))]) (st' := [.int (nI (4)), .int (nI (0)), .int (nI (b))]) (w2 := modW 0 S X K) rfl ?_
  refine ev_callS (Yc := mX7_isIn) [] dX7_bids_3 tw_1036 kX7_isIn (m_X7_isIn_n b 0 4 (by omega) (by decide) (by decide)) rfl (st := []) rfl (by decide) rfl (by decide) (Nat.le_of_ble_eq_true rfl) (Nat.le_refl _) (Nat.le_refl _) (fun r w' h => by obtain ⟨-, rfl⟩ := h; exact Nat.le_of_ble_eq_true rfl) ?_
  rintro _ _ ⟨rfl, rfl⟩
  refine ev_eq (lv' := [(0, .ref 0), (1, .int (nI (b))), (2, .int (nI (set))), (3, .int (nI (p)))]) (st' := [.int (nI (b01 (0 ≤ b ∧ b ≤ 4)))]) (w' := modW 0 S X K) rfl rfl rfl ?_
  refine ev_ifne_b (tgt := 15) dX7_bids_6 (by decide) (fun h6 => ?_) (fun h6 => (by exfalso; omega))
  refine ev_b bX7_bids_15_17 (lv' := [(0, .ref 0), (1, .int (nI (b))), (2, .int (nI (set))), (3, .int (nI (p)))]) (st' := [.int (nI (1)), .int (nI (set))]) (w2 := modW 0 S X K) rfl ?_
  refine ev_icmp_lt_n (tgt := 25) (by omega) (by decide) dX7_bids_17 (by decide) (fun h17 => (by exfalso; omega)) (fun h17 => ?_)
  refine ev_b bX7_bids_20_22 (lv' := [(0, .ref 0), (1, .int (nI (b))), (2, .int (nI (set))), (3, .int (nI (p)))]) (st' := [.int (nI (1)), .int (nI (p))]) (w2 := modW 0 S X K) rfl ?_
  refine ev_icmp_ge_n (tgt := 32) (by omega) (by decide) dX7_bids_22 (by decide) (fun h22 => ?_) (fun h22 => (by exfalso; omega))
  refine ev_b bX7_bids_32_35 (lv' := [(0, .ref 0), (1, .int (nI (b))), (2, .int (nI (set))), (3, .int (nI (p)))]) (st' := [.int (nI (63)), .int (nI (set))]) (w2 := modW 0 S X K) rfl ?_
  refine ev_icmp_gt_n (tgt := 53) (by omega) (by decide) dX7_bids_35 (by decide) (fun h35 => (by exfalso; omega)) (fun h35 => ?_)
  refine ev_b bX7_bids_38_41 (lv' := [(0, .ref 0), (1, .int (nI (b))), (2, .int (nI (set))), (3, .int (nI (p)))]) (st' := [.int (nI (99)), .int (nI (p))]) (w2 := modW 0 S X K) rfl ?_
  refine ev_icmp_gt_n (tgt := 53) (by omega) (by decide) dX7_bids_41 (by decide) (fun h41 => (by exfalso; omega)) (fun h41 => ?_)
  refine ev_b bX7_bids_44_50 (lv' := [(0, .ref 0), (1, .int (nI (b))), (2, .int (nI (set))), (3, .int (nI (p)))]) (st' := [.int (nI (10)), .int (nI (S.ca))]) (w2 := modW 0 S X K) rfl ?_
  refine ev_icmp_ne_n (tgt := 60) (by omega) (by decide) dX7_bids_50 (by decide) (fun h50 => ?_) (fun h50 => (by exfalso; omega))
  refine ev_b bX7_bids_60_66 (lv' := [(0, .ref 0), (1, .int (nI (b))), (2, .int (nI (set))), (3, .int (nI (p)))]) (st' := [.int (nI (b)), .int (nI (0)), .ref 14]) (w2 := modW 0 S X K) rfl ?_
  refine ev_iast_n (f := X.tt) dX7_bids_66 rfl (by omega) (by decide) ?_
  refine ev_eq (w' := modW 0 S ((X.rf, X.wo, X.ta, X.ow, X.sl, X.sh, X.lt, X.ty, X.pl, X.nu, X.od, up X.tt 0 b, X.oo, X.on, X.wn, X.pd, X.li, X.rr, X.rn, X.dr) : ModN) K) rfl rfl rfl ?_
  refine ev_b bX7_bids_67_73 (lv' := [(0, .ref 0), (1, .int (nI (b))), (2, .int (nI (set))), (3, .int (nI (p)))]) (st' := [.int (nI (set)), .int (nI (1)), .ref 14]) (w2 := modW 0 S ((X.rf, X.wo, X.ta, X.ow, X.sl, X.sh, X.lt, X.ty, X.pl, X.nu, X.od, up X.tt 0 b, X.oo, X.on, X.wn, X.pd, X.li, X.rr, X.rn, X.dr) : ModN) K) rfl ?_
  refine ev_iast_n (f := up X.tt 0 b) dX7_bids_73 rfl (by omega) (by decide) ?_
  refine ev_eq (w' := modW 0 S ((X.rf, X.wo, X.ta, X.ow, X.sl, X.sh, X.lt, X.ty, X.pl, X.nu, X.od, up (up X.tt 0 b) 1 set, X.oo, X.on, X.wn, X.pd, X.li, X.rr, X.rn, X.dr) : ModN) K) rfl rfl rfl ?_
  refine ev_b bX7_bids_74_80 (lv' := [(0, .ref 0), (1, .int (nI (b))), (2, .int (nI (set))), (3, .int (nI (p)))]) (st' := [.int (nI (p)), .int (nI (2)), .ref 14]) (w2 := modW 0 S ((X.rf, X.wo, X.ta, X.ow, X.sl, X.sh, X.lt, X.ty, X.pl, X.nu, X.od, up (up X.tt 0 b) 1 set, X.oo, X.on, X.wn, X.pd, X.li, X.rr, X.rn, X.dr) : ModN) K) rfl ?_
  refine ev_iast_n (f := up (up X.tt 0 b) 1 set) dX7_bids_80 rfl (by omega) (by decide) ?_
  refine ev_eq (w' := modW 0 S ((X.rf, X.wo, X.ta, X.ow, X.sl, X.sh, X.lt, X.ty, X.pl, X.nu, X.od, up (up (up X.tt 0 b) 1 set) 2 p, X.oo, X.on, X.wn, X.pd, X.li, X.rr, X.rn, X.dr) : ModN) K) rfl rfl rfl ?_
  refine ev_b bX7_bids_81_83 (lv' := [(0, .ref 0), (1, .int (nI (b))), (2, .int (nI (set))), (3, .int (nI (p)))]) (st' := [.int (nI (0)), .ref 0]) (w2 := modW 0 S ((X.rf, X.wo, X.ta, X.ow, X.sl, X.sh, X.lt, X.ty, X.pl, X.nu, X.od, up (up (up X.tt 0 b) 1 set) 2 p, X.oo, X.on, X.wn, X.pd, X.li, X.rr, X.rn, X.dr) : ModN) K) rfl ?_
  refine ev_callM (Yc := mX7_comes) (st := []) dX7_bids_83 tw_1072 kX7_comes (m_X7_comes_0 S ((X.rf, X.wo, X.ta, X.ow, X.sl, X.sh, X.lt, X.ty, X.pl, X.nu, X.od, up (up (up X.tt 0 b) 1 set) 2 p, X.oo, X.on, X.wn, X.pd, X.li, X.rr, X.rn, X.dr) : ModN) K hc) rfl rfl rfl rfl (by decide) (Nat.le_of_ble_eq_true rfl) (Nat.le_refl _) (Nat.le_refl _) (fun r w' h => by obtain ⟨-, rfl⟩ := h; exact mod_eq) ?_
  rintro _ _ ⟨rfl, rfl⟩
  refine ev_eq (lv' := [(0, .ref 0), (1, .int (nI (b))), (2, .int (nI (set))), (3, .int (nI (p)))]) (st' := []) (w' := modW 0 ((addS S b set p)) ((X.rf, X.wo, X.ta, X.ow, 1, X.sh, X.lt, X.ty, X.pl, X.nu, X.od, (up (up (up X.tt 0 b) 1 set) 2 p), X.oo, X.on, X.wn, X.pd, X.li, X.rr, X.rn, X.dr) : ModN) K) rfl rfl rfl ?_
  have hca2 : SaleN.ca (addS S b set p) = S.ca + 1 := rfl
  refine ev_b bX7_bids_86_91 (lv' := [(0, .ref 0), (1, .int (nI (b))), (2, .int (nI (set))), (3, .int (nI (p)))]) (st' := [.int (nI (1)), .int (nI (SaleN.ca ((addS S b set p))))]) (w2 := modW 0 ((addS S b set p)) ((X.rf, X.wo, X.ta, X.ow, 1, X.sh, X.lt, X.ty, X.pl, X.nu, X.od, (up (up (up X.tt 0 b) 1 set) 2 p), X.oo, X.on, X.wn, X.pd, X.li, X.rr, X.rn, X.dr) : ModN) K) rfl ?_
  refine ev_isub_n (by omega) dX7_bids_91 ?_
  exact ev_iret dX7_bids_92 rfl mod_le (Nat.le_refl _) (Nat.le_refl _) ⟨rfl, _, rfl, mok_stale hM.1 rfl, rfl, rfl, rfl, rfl, rfl⟩
theorem bX7_turns_0_2 {l : Launch} {E : XE} : Snd l E mX7_turns 0 2 (xs [x_aload 0, x_iload 1]) := Snd.cons (snd_aload_n (i := 0) dX7_turns_0 rfl) (Snd.cons (snd_iload_n (i := 1) dX7_turns_1 rfl) Snd.nil)
theorem bX7_turns_8_10 {l : Launch} {E : XE} : Snd l E mX7_turns 8 10 (xs [x_aload 0, x_push (.int (-1))]) := Snd.cons (snd_aload_n (i := 0) dX7_turns_8 rfl) (Snd.cons (snd_iconst (v := -1) dX7_turns_9 (by decide)) Snd.nil)
set_option maxHeartbeats 4000000 in
set_option maxRecDepth 100000 in
theorem q_turns_1 {l : Launch} {E : XE} (S : SaleN) (X : ModN) (K : Option (Nat → Nat)) (z1 : Int) (hS : SaleOK S) (hM : MOK S X) (rz1 : -2147483648 ≤ z1 ∧ z1 < 2147483648) (h : ¬ (0 ≤ z1 ∧ z1 < S.ca)) : MetE l E mX7_turns (2) 0 0 [.ref 0, .int (zI (z1))] (modW 0 S X K) (MP S K (X.lt) (X.ty) (X.rr) (X.rn) ((up X.rf 1 (X.rf 1 + 1))) (some (.int (-1)))) := by
  refine MetE.of (by decide +kernel) (Nat.le_of_ble_eq_true rfl) ?_
  have hca := hS.1
  have hpw := pow_ca hS
  have hac := ac_lt hS
  have hshl := shl_le hS
  
  refine ev_eq (lv' := [(0, .ref 0), (1, .int (zI (z1)))]) (st' := []) (w' := modW 0 S X K) rfl rfl rfl ?_
  refine ev_b bX7_turns_0_2 (lv' := [(0, .ref 0), (1, .int (zI (z1)))]) (st' := [.int (zI (z1)), .ref 0]) (w2 := modW 0 S X K) rfl ?_
  refine ev_callM (Yc := mX7_isBid) (st := []) dX7_turns_2 tw_1084 kX7_isBid (m_X7_isBid_z S X K z1 hca rz1) rfl rfl rfl rfl (by decide) (Nat.le_of_ble_eq_true rfl) (Nat.le_refl _) (Nat.le_refl _) (fun r w' h => by obtain ⟨-, rfl⟩ := h; exact mod_eq) ?_
  rintro _ _ ⟨rfl, rfl⟩
  refine ev_eq (lv' := [(0, .ref 0), (1, .int (zI (z1)))]) (st' := [.int (nI (b01 (0 ≤ z1 ∧ z1 < S.ca)))]) (w' := modW 0 S X K) rfl rfl rfl ?_
  refine ev_ifne_b (tgt := 14) dX7_turns_5 (by decide) (fun h5 => (by exfalso; omega)) (fun h5 => ?_)
  refine ev_b bX7_turns_8_10 (lv' := [(0, .ref 0), (1, .int (zI (z1)))]) (st' := [.int (-1), .ref 0]) (w2 := modW 0 S X K) rfl ?_
  refine ev_callM (Yc := mX7_refuses) (st := []) dX7_turns_10 tw_1012 kX7_refuses (m_X7_refuses_1 S X K) rfl rfl rfl rfl (by decide) (Nat.le_of_ble_eq_true rfl) (Nat.le_refl _) (Nat.le_refl _) (fun r w' h => by obtain ⟨-, rfl⟩ := h; exact mod_eq) ?_
  rintro _ _ ⟨rfl, rfl⟩
  refine ev_eq (lv' := [(0, .ref 0), (1, .int (zI (z1)))]) (st' := [.int (-1)]) (w' := modW 0 S (((up X.rf 1 (X.rf 1 + 1)), X.wo, X.ta, X.ow, X.sl, X.sh, X.lt, X.ty, X.pl, X.nu, X.od, X.tt, X.oo, X.on, X.wn, X.pd, X.li, X.rr, X.rn, X.dr) : ModN) K) rfl rfl rfl ?_
  exact ev_iret dX7_turns_13 rfl mod_le (Nat.le_refl _) (Nat.le_refl _) ⟨rfl, _, rfl, hM, rfl, rfl, rfl, rfl, rfl⟩
theorem bX7_turns_14_21 {l : Launch} {E : XE} : Snd l E mX7_turns 14 21 (xs [x_aload 0, x_dup, x_get 8 7, x_push (.int (nI 1)), x_iload 1]) := Snd.cons (snd_aload_n (i := 0) dX7_turns_14 rfl) (Snd.cons (snd_dup dX7_turns_15) (Snd.cons (snd_get (ci := 8) (k := 7) dX7_turns_16 rfl inX7 (by decide) tw_921) (Snd.cons (snd_iconst (v := nI 1) dX7_turns_19 (by decide)) (Snd.cons (snd_iload_n (i := 1) dX7_turns_20 rfl) Snd.nil))))
theorem bX7_turns_23_31 {l : Launch} {E : XE} : Snd l E mX7_turns 23 31 (xs [x_puti 8 7, x_aload 0, x_get 8 7, x_iload 1]) := Snd.cons (snd_puti (ci := 8) (k := 7) dX7_turns_23 rfl inX7 tyX7_ok nmX7 (by decide) tw_921 rfl rfl) (Snd.cons (snd_aload_n (i := 0) dX7_turns_26 rfl) (Snd.cons (snd_get (ci := 8) (k := 7) dX7_turns_27 rfl inX7 (by decide) tw_921) (Snd.cons (snd_iload_n (i := 1) dX7_turns_30 rfl) Snd.nil)))
theorem bX7_turns_32_33 {l : Launch} {E : XE} : Snd l E mX7_turns 32 33 (xs [x_push (.int (nI 1))]) := Snd.cons (snd_iconst (v := nI 1) dX7_turns_32 (by decide)) Snd.nil
set_option maxHeartbeats 4000000 in
set_option maxRecDepth 100000 in
theorem q_turns_ok {l : Launch} {E : XE} (S : SaleN) (X : ModN) (K : Option (Nat → Nat)) (k : Nat) (hS : SaleOK S) (hM : MOK S X) (hk : k < S.ca) : MetE l E mX7_turns (2) 0 0 [.ref 0, .int (nI (k))] (modW 0 S X K) (MP (turnS S k) K (X.lt) (X.ty) (X.rr) (X.rn) (X.rf) (some (.int (nI (b01 ((SaleN.ac (turnS S k)).testBit k = true)))))) := by
  refine MetE.of (by decide +kernel) (Nat.le_of_ble_eq_true rfl) ?_
  have hca := hS.1
  have hpw := pow_ca hS
  have hac := ac_lt hS
  have hshl := shl_le hS
  
  refine ev_eq (lv' := [(0, .ref 0), (1, .int (nI (k)))]) (st' := []) (w' := modW 0 S X K) rfl rfl rfl ?_
  refine ev_b bX7_turns_0_2 (lv' := [(0, .ref 0), (1, .int (nI (k)))]) (st' := [.int (nI (k)), .ref 0]) (w2 := modW 0 S X K) rfl ?_
  refine ev_callM (Yc := mX7_isBid) (st := []) dX7_turns_2 tw_1084 kX7_isBid (m_X7_isBid_n S X K k hca (by omega)) rfl rfl rfl rfl (by decide) (Nat.le_of_ble_eq_true rfl) (Nat.le_refl _) (Nat.le_refl _) (fun r w' h => by obtain ⟨-, rfl⟩ := h; exact mod_eq) ?_
  rintro _ _ ⟨rfl, rfl⟩
  refine ev_eq (lv' := [(0, .ref 0), (1, .int (nI (k)))]) (st' := [.int (nI (b01 (k < S.ca)))]) (w' := modW 0 S X K) rfl rfl rfl ?_
  refine ev_ifne_b (tgt := 14) dX7_turns_5 (by decide) (fun h5 => ?_) (fun h5 => (by exfalso; omega))
  refine ev_b bX7_turns_14_21 (lv' := [(0, .ref 0), (1, .int (nI (k)))]) (st' := [.int (nI (k)), .int (nI (1)), .int (nI (S.ac)), .ref 0]) (w2 := modW 0 S X K) rfl ?_
  refine ev_ishl_n (by omega) dX7_turns_21 ?_
  refine ev_ixor_n dX7_turns_22 ?_
  refine ev_b bX7_turns_23_31 (lv' := [(0, .ref 0), (1, .int (nI (k)))]) (st' := [.int (nI (k)), .int (nI (S.ac ^^^ (1 <<< k)))]) (w2 := modW 0 ((S.bd, S.st, S.pr, S.ow, S.kd, S.fg, S.rs, S.ca, S.ac ^^^ (1 <<< k)) : SaleN) X K) rfl ?_
  refine ev_ishr_n (by exact turn_lt hS hk) (by omega) dX7_turns_31 ?_
  refine ev_b bX7_turns_32_33 (lv' := [(0, .ref 0), (1, .int (nI (k)))]) (st' := [.int (nI (1)), .int (nI ((S.ac ^^^ (1 <<< k)) >>> k))]) (w2 := modW 0 ((S.bd, S.st, S.pr, S.ow, S.kd, S.fg, S.rs, S.ca, S.ac ^^^ (1 <<< k)) : SaleN) X K) rfl ?_
  refine ev_iand_n dX7_turns_33 ?_
  refine ev_top (y := (nI (b01 ((SaleN.ac (turnS S k)).testBit k = true)))) (congrArg nI (show ((S.ac ^^^ (1 <<< k)) >>> k) &&& 1 = b01 ((SaleN.ac (turnS S k)).testBit k = true) from by exact shr1 _ _)) ?_
  exact ev_iret dX7_turns_34 rfl mod_le (Nat.le_refl _) (Nat.le_refl _) ⟨rfl, _, rfl, hM, rfl, rfl, rfl, rfl, rfl⟩
theorem bX7_price_0_2 {l : Launch} {E : XE} : Snd l E mX7_price 0 2 (xs [x_aload 0, x_iload 1]) := Snd.cons (snd_aload_n (i := 0) dX7_price_0 rfl) (Snd.cons (snd_iload_n (i := 1) dX7_price_1 rfl) Snd.nil)
theorem bX7_price_8_10 {l : Launch} {E : XE} : Snd l E mX7_price 8 10 (xs [x_aload 0, x_push (.int (-1))]) := Snd.cons (snd_aload_n (i := 0) dX7_price_8 rfl) (Snd.cons (snd_iconst (v := -1) dX7_price_9 (by decide)) Snd.nil)
set_option maxHeartbeats 4000000 in
set_option maxRecDepth 100000 in
theorem q_price_1 {l : Launch} {E : XE} (S : SaleN) (X : ModN) (K : Option (Nat → Nat)) (z1 z2 : Int) (hS : SaleOK S) (hM : MOK S X) (rz1 : -2147483648 ≤ z1 ∧ z1 < 2147483648) (rz2 : -2147483648 ≤ z2 ∧ z2 < 2147483648) (h : ¬ (0 ≤ z1 ∧ z1 < S.ca)) : MetE l E mX7_price (2) 0 0 [.ref 0, .int (zI (z1)), .int (zI (z2))] (modW 0 S X K) (MP S K (X.lt) (X.ty) (X.rr) (X.rn) ((up X.rf 1 (X.rf 1 + 1))) (some (.int (-1)))) := by
  refine MetE.of (by decide +kernel) (Nat.le_of_ble_eq_true rfl) ?_
  have hca := hS.1
  have hpw := pow_ca hS
  have hac := ac_lt hS
  have hshl := shl_le hS
  
  refine ev_eq (lv' := [(0, .ref 0), (1, .int (zI (z1))), (2, .int (zI (z2)))]) (st' := []) (w' := modW 0 S X K) rfl rfl rfl ?_
  refine ev_b bX7_price_0_2 (lv' := [(0, .ref 0), (1, .int (zI (z1))), (2, .int (zI (z2)))]) (st' := [.int (zI (z1)), .ref 0]) (w2 := modW 0 S X K) rfl ?_
  refine ev_callM (Yc := mX7_isBid) (st := []) dX7_price_2 tw_1084 kX7_isBid (m_X7_isBid_z S X K z1 hca rz1) rfl rfl rfl rfl (by decide) (Nat.le_of_ble_eq_true rfl) (Nat.le_refl _) (Nat.le_refl _) (fun r w' h => by obtain ⟨-, rfl⟩ := h; exact mod_eq) ?_
  rintro _ _ ⟨rfl, rfl⟩
  refine ev_eq (lv' := [(0, .ref 0), (1, .int (zI (z1))), (2, .int (zI (z2)))]) (st' := [.int (nI (b01 (0 ≤ z1 ∧ z1 < S.ca)))]) (w' := modW 0 S X K) rfl rfl rfl ?_
  refine ev_ifne_b (tgt := 14) dX7_price_5 (by decide) (fun h5 => (by exfalso; omega)) (fun h5 => ?_)
  refine ev_b bX7_price_8_10 (lv' := [(0, .ref 0), (1, .int (zI (z1))), (2, .int (zI (z2)))]) (st' := [.int (-1), .ref 0]) (w2 := modW 0 S X K) rfl ?_
  refine ev_callM (Yc := mX7_refuses) (st := []) dX7_price_10 tw_1012 kX7_refuses (m_X7_refuses_1 S X K) rfl rfl rfl rfl (by decide) (Nat.le_of_ble_eq_true rfl) (Nat.le_refl _) (Nat.le_refl _) (fun r w' h => by obtain ⟨-, rfl⟩ := h; exact mod_eq) ?_
  rintro _ _ ⟨rfl, rfl⟩
  refine ev_eq (lv' := [(0, .ref 0), (1, .int (zI (z1))), (2, .int (zI (z2)))]) (st' := [.int (-1)]) (w' := modW 0 S (((up X.rf 1 (X.rf 1 + 1)), X.wo, X.ta, X.ow, X.sl, X.sh, X.lt, X.ty, X.pl, X.nu, X.od, X.tt, X.oo, X.on, X.wn, X.pd, X.li, X.rr, X.rn, X.dr) : ModN) K) rfl rfl rfl ?_
  exact ev_iret dX7_price_13 rfl mod_le (Nat.le_refl _) (Nat.le_refl _) ⟨rfl, _, rfl, hM, rfl, rfl, rfl, rfl, rfl⟩
theorem bX7_price_14_16 {l : Launch} {E : XE} : Snd l E mX7_price 14 16 (xs [x_iload 2, x_push (.int (nI 1))]) := Snd.cons (snd_iload_n (i := 2) dX7_price_14 rfl) (Snd.cons (snd_iconst (v := nI 1) dX7_price_15 (by decide)) Snd.nil)
theorem bX7_price_19_22 {l : Launch} {E : XE} : Snd l E mX7_price 19 22 (xs [x_aload 0, x_push (.int (-4))]) := Snd.cons (snd_aload_n (i := 0) dX7_price_19 rfl) (Snd.cons (snd_bipush (v := -4) dX7_price_20 (by decide)) Snd.nil)
set_option maxHeartbeats 4000000 in
set_option maxRecDepth 100000 in
theorem q_price_4 {l : Launch} {E : XE} (S : SaleN) (X : ModN) (K : Option (Nat → Nat)) (z1 z2 : Int) (hS : SaleOK S) (hM : MOK S X) (rz1 : -2147483648 ≤ z1 ∧ z1 < 2147483648) (rz2 : -2147483648 ≤ z2 ∧ z2 < 2147483648) (h : 0 ≤ z1 ∧ z1 < S.ca) (h2 : z2 < 1) : MetE l E mX7_price (2) 0 0 [.ref 0, .int (zI (z1)), .int (zI (z2))] (modW 0 S X K) (MP S K (X.lt) (X.ty) (X.rr) (X.rn) ((up X.rf 4 (X.rf 4 + 1))) (some (.int (-4)))) := by
  refine MetE.of (by decide +kernel) (Nat.le_of_ble_eq_true rfl) ?_
  have hca := hS.1
  have hpw := pow_ca hS
  have hac := ac_lt hS
  have hshl := shl_le hS
  
  refine ev_eq (lv' := [(0, .ref 0), (1, .int (zI (z1))), (2, .int (zI (z2)))]) (st' := []) (w' := modW 0 S X K) rfl rfl rfl ?_
  refine ev_b bX7_price_0_2 (lv' := [(0, .ref 0), (1, .int (zI (z1))), (2, .int (zI (z2)))]) (st' := [.int (zI (z1)), .ref 0]) (w2 := modW 0 S X K) rfl ?_
  refine ev_callM (Yc := mX7_isBid) (st := []) dX7_price_2 tw_1084 kX7_isBid (m_X7_isBid_z S X K z1 hca rz1) rfl rfl rfl rfl (by decide) (Nat.le_of_ble_eq_true rfl) (Nat.le_refl _) (Nat.le_refl _) (fun r w' h => by obtain ⟨-, rfl⟩ := h; exact mod_eq) ?_
  rintro _ _ ⟨rfl, rfl⟩
  refine ev_eq (lv' := [(0, .ref 0), (1, .int (zI (z1))), (2, .int (zI (z2)))]) (st' := [.int (nI (b01 (0 ≤ z1 ∧ z1 < S.ca)))]) (w' := modW 0 S X K) rfl rfl rfl ?_
  refine ev_ifne_b (tgt := 14) dX7_price_5 (by decide) (fun h5 => ?_) (fun h5 => (by exfalso; omega))
  refine ev_b bX7_price_14_16 (lv' := [(0, .ref 0), (1, .int (zI (z1))), (2, .int (zI (z2)))]) (st' := [.int (nI (1)), .int (zI (z2))]) (w2 := modW 0 S X K) rfl ?_
  refine ev_top (y := zI (((1 : Nat) : Int))) (zI_nat _).symm ?_
  refine ev_icmp_ge_z (tgt := 26) (by constructor <;> omega) (by constructor <;> omega) dX7_price_16 (by decide) (fun h16 => (by exfalso; omega)) (fun h16 => ?_)
  refine ev_b bX7_price_19_22 (lv' := [(0, .ref 0), (1, .int (zI (z1))), (2, .int (zI (z2)))]) (st' := [.int (-4), .ref 0]) (w2 := modW 0 S X K) rfl ?_
  refine ev_callM (Yc := mX7_refuses) (st := []) dX7_price_22 tw_1012 kX7_refuses (m_X7_refuses_4 S X K) rfl rfl rfl rfl (by decide) (Nat.le_of_ble_eq_true rfl) (Nat.le_refl _) (Nat.le_refl _) (fun r w' h => by obtain ⟨-, rfl⟩ := h; exact mod_eq) ?_
  rintro _ _ ⟨rfl, rfl⟩
  refine ev_eq (lv' := [(0, .ref 0), (1, .int (zI (z1))), (2, .int (zI (z2)))]) (st' := [.int (-4)]) (w' := modW 0 S (((up X.rf 4 (X.rf 4 + 1)), X.wo, X.ta, X.ow, X.sl, X.sh, X.lt, X.ty, X.pl, X.nu, X.od, X.tt, X.oo, X.on, X.wn, X.pd, X.li, X.rr, X.rn, X.dr) : ModN) K) rfl rfl rfl ?_
  exact ev_iret dX7_price_25 rfl mod_le (Nat.le_refl _) (Nat.le_refl _) ⟨rfl, _, rfl, hM, rfl, rfl, rfl, rfl, rfl⟩
theorem bX7_price_26_29 {l : Launch} {E : XE} : Snd l E mX7_price 26 29 (xs [x_iload 2, x_push (.int (nI 99))]) := Snd.cons (snd_iload_n (i := 2) dX7_price_26 rfl) (Snd.cons (snd_bipush (v := nI 99) dX7_price_27 (by decide)) Snd.nil)
theorem bX7_price_32_35 {l : Launch} {E : XE} : Snd l E mX7_price 32 35 (xs [x_aload 0, x_push (.int (-6))]) := Snd.cons (snd_aload_n (i := 0) dX7_price_32 rfl) (Snd.cons (snd_bipush (v := -6) dX7_price_33 (by decide)) Snd.nil)
set_option maxHeartbeats 4000000 in
set_option maxRecDepth 100000 in
theorem q_price_6 {l : Launch} {E : XE} (S : SaleN) (X : ModN) (K : Option (Nat → Nat)) (z1 z2 : Int) (hS : SaleOK S) (hM : MOK S X) (rz1 : -2147483648 ≤ z1 ∧ z1 < 2147483648) (rz2 : -2147483648 ≤ z2 ∧ z2 < 2147483648) (h : 0 ≤ z1 ∧ z1 < S.ca) (h2 : 99 < z2) : MetE l E mX7_price (2) 0 0 [.ref 0, .int (zI (z1)), .int (zI (z2))] (modW 0 S X K) (MP S K (X.lt) (X.ty) (X.rr) (X.rn) ((up X.rf 6 (X.rf 6 + 1))) (some (.int (-6)))) := by
  refine MetE.of (by decide +kernel) (Nat.le_of_ble_eq_true rfl) ?_
  have hca := hS.1
  have hpw := pow_ca hS
  have hac := ac_lt hS
  have hshl := shl_le hS
  
  refine ev_eq (lv' := [(0, .ref 0), (1, .int (zI (z1))), (2, .int (zI (z2)))]) (st' := []) (w' := modW 0 S X K) rfl rfl rfl ?_
  refine ev_b bX7_price_0_2 (lv' := [(0, .ref 0), (1, .int (zI (z1))), (2, .int (zI (z2)))]) (st' := [.int (zI (z1)), .ref 0]) (w2 := modW 0 S X K) rfl ?_
  refine ev_callM (Yc := mX7_isBid) (st := []) dX7_price_2 tw_1084 kX7_isBid (m_X7_isBid_z S X K z1 hca rz1) rfl rfl rfl rfl (by decide) (Nat.le_of_ble_eq_true rfl) (Nat.le_refl _) (Nat.le_refl _) (fun r w' h => by obtain ⟨-, rfl⟩ := h; exact mod_eq) ?_
  rintro _ _ ⟨rfl, rfl⟩
  refine ev_eq (lv' := [(0, .ref 0), (1, .int (zI (z1))), (2, .int (zI (z2)))]) (st' := [.int (nI (b01 (0 ≤ z1 ∧ z1 < S.ca)))]) (w' := modW 0 S X K) rfl rfl rfl ?_
  refine ev_ifne_b (tgt := 14) dX7_price_5 (by decide) (fun h5 => ?_) (fun h5 => (by exfalso; omega))
  refine ev_b bX7_price_14_16 (lv' := [(0, .ref 0), (1, .int (zI (z1))), (2, .int (zI (z2)))]) (st' := [.int (nI (1)), .int (zI (z2))]) (w2 := modW 0 S X K) rfl ?_
  refine ev_top (y := zI (((1 : Nat) : Int))) (zI_nat _).symm ?_
  refine ev_icmp_ge_z (tgt := 26) (by constructor <;> omega) (by constructor <;> omega) dX7_price_16 (by decide) (fun h16 => ?_) (fun h16 => (by exfalso; omega))
  refine ev_b bX7_price_26_29 (lv' := [(0, .ref 0), (1, .int (zI (z1))), (2, .int (zI (z2)))]) (st' := [.int (nI (99)), .int (zI (z2))]) (w2 := modW 0 S X K) rfl ?_
  refine ev_top (y := zI (((99 : Nat) : Int))) (zI_nat _).symm ?_
  refine ev_icmp_le_z (tgt := 39) (by constructor <;> omega) (by constructor <;> omega) dX7_price_29 (by decide) (fun h29 => (by exfalso; omega)) (fun h29 => ?_)
  refine ev_b bX7_price_32_35 (lv' := [(0, .ref 0), (1, .int (zI (z1))), (2, .int (zI (z2)))]) (st' := [.int (-6), .ref 0]) (w2 := modW 0 S X K) rfl ?_
  refine ev_callM (Yc := mX7_refuses) (st := []) dX7_price_35 tw_1012 kX7_refuses (m_X7_refuses_6 S X K) rfl rfl rfl rfl (by decide) (Nat.le_of_ble_eq_true rfl) (Nat.le_refl _) (Nat.le_refl _) (fun r w' h => by obtain ⟨-, rfl⟩ := h; exact mod_eq) ?_
  rintro _ _ ⟨rfl, rfl⟩
  refine ev_eq (lv' := [(0, .ref 0), (1, .int (zI (z1))), (2, .int (zI (z2)))]) (st' := [.int (-6)]) (w' := modW 0 S (((up X.rf 6 (X.rf 6 + 1)), X.wo, X.ta, X.ow, X.sl, X.sh, X.lt, X.ty, X.pl, X.nu, X.od, X.tt, X.oo, X.on, X.wn, X.pd, X.li, X.rr, X.rn, X.dr) : ModN) K) rfl rfl rfl ?_
  exact ev_iret dX7_price_38 rfl mod_le (Nat.le_refl _) (Nat.le_refl _) ⟨rfl, _, rfl, hM, rfl, rfl, rfl, rfl, rfl⟩
theorem bX7_price_39_44 {l : Launch} {E : XE} : Snd l E mX7_price 39 44 (xs [x_aload 0, x_get 8 5, x_iload 1]) := Snd.cons (snd_aload_n (i := 0) dX7_price_39 rfl) (Snd.cons (snd_get (ci := 8) (k := 5) dX7_price_40 rfl inX7 (by decide) tw_919) (Snd.cons (snd_iload_n (i := 1) dX7_price_43 rfl) Snd.nil))
theorem bX7_price_45_52 {l : Launch} {E : XE} : Snd l E mX7_price 45 52 (xs [x_istore 3, x_aload 0, x_get 8 5, x_iload 1, x_iload 2]) := Snd.cons (snd_istore_n (i := 3) dX7_price_45 rfl (by decide)) (Snd.cons (snd_aload_n (i := 0) dX7_price_46 rfl) (Snd.cons (snd_get (ci := 8) (k := 5) dX7_price_47 rfl inX7 (by decide) tw_919) (Snd.cons (snd_iload_n (i := 1) dX7_price_50 rfl) (Snd.cons (snd_iload_n (i := 2) dX7_price_51 rfl) Snd.nil))))
theorem bX7_price_53_55 {l : Launch} {E : XE} : Snd l E mX7_price 53 55 (xs [x_aload 0, x_push (.int (nI 1))]) := Snd.cons (snd_aload_n (i := 0) dX7_price_53 rfl) (Snd.cons (snd_iconst (v := nI 1) dX7_price_54 (by decide)) Snd.nil)
theorem bX7_price_58_59 {l : Launch} {E : XE} : Snd l E mX7_price 58 59 (xs [x_iload 3]) := Snd.cons (snd_iload_n (i := 3) dX7_price_58 rfl) Snd.nil
set_option maxHeartbeats 4000000 in
set_option maxRecDepth 100000 in
theorem q_price_ok {l : Launch} {E : XE} (S : SaleN) (X : ModN) (K : Option (Nat → Nat)) (k p : Nat) (hS : SaleOK S) (hM : MOK S X) (hk : k < S.ca) (hp : 1 ≤ p ∧ p ≤ 99) : MetE l E mX7_price (2) 0 0 [.ref 0, .int (nI (k)), .int (nI (p))] (modW 0 S X K) (MP (priceS S k p) K (X.lt) (X.ty) (X.rr) (X.rn) (X.rf) (some (.int (nI (S.pr k))))) := by
  refine MetE.of (by decide +kernel) (Nat.le_of_ble_eq_true rfl) ?_
  have hca := hS.1
  have hpw := pow_ca hS
  have hac := ac_lt hS
  have hshl := shl_le hS
  
  refine ev_eq (lv' := [(0, .ref 0), (1, .int (nI (k))), (2, .int (nI (p)))]) (st' := []) (w' := modW 0 S X K) rfl rfl rfl ?_
  refine ev_b bX7_price_0_2 (lv' := [(0, .ref 0), (1, .int (nI (k))), (2, .int (nI (p)))]) (st' := [.int (nI (k)), .ref 0]) (w2 := modW 0 S X K) rfl ?_
  refine ev_callM (Yc := mX7_isBid) (st := []) dX7_price_2 tw_1084 kX7_isBid (m_X7_isBid_n S X K k hca (by omega)) rfl rfl rfl rfl (by decide) (Nat.le_of_ble_eq_true rfl) (Nat.le_refl _) (Nat.le_refl _) (fun r w' h => by obtain ⟨-, rfl⟩ := h; exact mod_eq) ?_
  rintro _ _ ⟨rfl, rfl⟩
  refine ev_eq (lv' := [(0, .ref 0), (1, .int (nI (k))), (2, .int (nI (p)))]) (st' := [.int (nI (b01 (k < S.ca)))]) (w' := modW 0 S X K) rfl rfl rfl ?_
  refine ev_ifne_b (tgt := 14) dX7_price_5 (by decide) (fun h5 => ?_) (fun h5 => (by exfalso; omega))
  refine ev_b bX7_price_14_16 (lv' := [(0, .ref 0), (1, .int (nI (k))), (2, .int (nI (p)))]) (st' := [.int (nI (1)), .int (nI (p))]) (w2 := modW 0 S X K) rfl ?_
  refine ev_icmp_ge_n (tgt := 26) (by omega) (by decide) dX7_price_16 (by decide) (fun h16 => ?_) (fun h16 => (by exfalso; omega))
  refine ev_b bX7_price_26_29 (lv' := [(0, .ref 0), (1, .int (nI (k))), (2, .int (nI (p)))]) (st' := [.int (nI (99)), .int (nI (p))]) (w2 := modW 0 S X K) rfl ?_
  refine ev_icmp_le_n (tgt := 39) (by omega) (by decide) dX7_price_29 (by decide) (fun h29 => ?_) (fun h29 => (by exfalso; omega))
  refine ev_b bX7_price_39_44 (lv' := [(0, .ref 0), (1, .int (nI (k))), (2, .int (nI (p)))]) (st' := [.int (nI (k)), .ref 6]) (w2 := modW 0 S X K) rfl ?_
  refine ev_iald_n (f := S.pr) dX7_price_44 rfl (by omega) (by decide) ?_
  refine ev_b bX7_price_45_52 (lv' := [(3, .int (nI (S.pr k))), (0, .ref 0), (1, .int (nI (k))), (2, .int (nI (p)))]) (st' := [.int (nI (p)), .int (nI (k)), .ref 6]) (w2 := modW 0 S X K) rfl ?_
  refine ev_iast_n (f := S.pr) dX7_price_52 rfl (by omega) (by decide) ?_
  refine ev_eq (w' := modW 0 ((S.bd, S.st, up S.pr k p, S.ow, S.kd, S.fg, S.rs, S.ca, S.ac) : SaleN) X K) rfl rfl rfl ?_
  refine ev_b bX7_price_53_55 (lv' := [(3, .int (nI (S.pr k))), (0, .ref 0), (1, .int (nI (k))), (2, .int (nI (p)))]) (st' := [.int (nI (1)), .ref 0]) (w2 := modW 0 ((S.bd, S.st, up S.pr k p, S.ow, S.kd, S.fg, S.rs, S.ca, S.ac) : SaleN) X K) rfl ?_
  refine snd_put (ci := 8) (k := 12) (a := 0) dX7_price_55 rfl inX7 tyX7_ok nmX7 (by decide) tw_926 rfl rfl (Nat.le_of_ble_eq_true rfl) (fun _ => rfl) (fun _ => rfl) ?_
  refine ev_eq (w' := modW 0 ((S.bd, S.st, up S.pr k p, S.ow, S.kd, S.fg, S.rs, S.ca, S.ac) : SaleN) ((X.rf, X.wo, X.ta, X.ow, 1, X.sh, X.lt, X.ty, X.pl, X.nu, X.od, X.tt, X.oo, X.on, X.wn, X.pd, X.li, X.rr, X.rn, X.dr) : ModN) K) rfl rfl rfl ?_
  refine ev_b bX7_price_58_59 (lv' := [(3, .int (nI (S.pr k))), (0, .ref 0), (1, .int (nI (k))), (2, .int (nI (p)))]) (st' := [.int (nI (S.pr k))]) (w2 := modW 0 ((S.bd, S.st, up S.pr k p, S.ow, S.kd, S.fg, S.rs, S.ca, S.ac) : SaleN) ((X.rf, X.wo, X.ta, X.ow, 1, X.sh, X.lt, X.ty, X.pl, X.nu, X.od, X.tt, X.oo, X.on, X.wn, X.pd, X.li, X.rr, X.rn, X.dr) : ModN) K) rfl ?_
  exact ev_iret dX7_price_59 rfl mod_le (Nat.le_refl _) (Nat.le_refl _) ⟨rfl, _, rfl, mok_stale hM.1 rfl, rfl, rfl, rfl, rfl, rfl⟩
theorem bX7_kind_0_3 {l : Launch} {E : XE} : Snd l E mX7_kind 0 3 (xs [x_iload 1, x_push (.int (nI 0)), x_push (.int (nI 4))]) := Snd.cons (snd_iload_n (i := 1) dX7_kind_0 rfl) (Snd.cons (snd_iconst (v := nI 0) dX7_kind_1 (by decide)) (Snd.cons (snd_iconst (v := nI 4) dX7_kind_2 (by decide)) Snd.nil))
theorem bX7_kind_9_11 {l : Launch} {E : XE} : Snd l E mX7_kind 9 11 (xs [x_aload 0, x_push (.int (-1))]) := Snd.cons (snd_aload_n (i := 0) dX7_kind_9 rfl) (Snd.cons (snd_iconst (v := -1) dX7_kind_10 (by decide)) Snd.nil)
set_option maxHeartbeats 4000000 in
set_option maxRecDepth 100000 in
theorem q_kind_1 {l : Launch} {E : XE} (S : SaleN) (X : ModN) (K : Option (Nat → Nat)) (z1 z2 z3 : Int) (hS : SaleOK S) (hM : MOK S X) (rz1 : -2147483648 ≤ z1 ∧ z1 < 2147483648) (rz2 : -2147483648 ≤ z2 ∧ z2 < 2147483648) (rz3 : -2147483648 ≤ z3 ∧ z3 < 2147483648) (h : ¬ (0 ≤ z1 ∧ z1 < 5)) : MetE l E mX7_kind (1) 0 0 [.ref 0, .int (zI (z1)), .int (zI (z2)), .int (zI (z3))] (modW 0 S X K) (MP S K (X.lt) (X.ty) (X.rr) (X.rn) ((up X.rf 1 (X.rf 1 + 1))) (some (.int (-1)))) := by
  refine MetE.of (by decide +kernel) (Nat.le_of_ble_eq_true rfl) ?_
  have hca := hS.1
  have hpw := pow_ca hS
  have hac := ac_lt hS
  have hshl := shl_le hS
  
  refine ev_eq (lv' := [(0, .ref 0), (1, .int (zI (z1))), (2, .int (zI (z2))), (3, .int (zI (z3)))]) (st' := []) (w' := modW 0 S X K) rfl rfl rfl ?_
  refine ev_b bX7_kind_0_3 (lv' := [(0, .ref 0), (1, .int (zI (z1))), (2, .int (zI (z2))), (3, .int (zI (z3)))]) (st' := [.int (nI (4)), .int (nI (0)), .int (zI (z1))]) (w2 := modW 0 S X K) rfl ?_
  refine ev_callS (Yc := mX7_isIn) [] dX7_kind_3 tw_1036 kX7_isIn (m_X7_isIn_z z1 0 4 rz1 (by decide) (by decide)) rfl (st := []) rfl (by decide) rfl (by decide) (Nat.le_of_ble_eq_true rfl) (Nat.le_refl _) (Nat.le_refl _) (fun r w' h => by obtain ⟨-, rfl⟩ := h; exact Nat.le_of_ble_eq_true rfl) ?_
  rintro _ _ ⟨rfl, rfl⟩
  refine ev_eq (lv' := [(0, .ref 0), (1, .int (zI (z1))), (2, .int (zI (z2))), (3, .int (zI (z3)))]) (st' := [.int (nI (b01 (((0 : Nat) : Int) ≤ z1 ∧ z1 ≤ ((4 : Nat) : Int))))]) (w' := modW 0 S X K) rfl rfl rfl ?_
  refine ev_ifne_b (tgt := 15) dX7_kind_6 (by decide) (fun h6 => (by exfalso; omega)) (fun h6 => ?_)
  refine ev_b bX7_kind_9_11 (lv' := [(0, .ref 0), (1, .int (zI (z1))), (2, .int (zI (z2))), (3, .int (zI (z3)))]) (st' := [.int (-1), .ref 0]) (w2 := modW 0 S X K) rfl ?_
  refine ev_callM (Yc := mX7_refuses) (st := []) dX7_kind_11 tw_1012 kX7_refuses (m_X7_refuses_1 S X K) rfl rfl rfl rfl (by decide) (Nat.le_of_ble_eq_true rfl) (Nat.le_refl _) (Nat.le_refl _) (fun r w' h => by obtain ⟨-, rfl⟩ := h; exact mod_eq) ?_
  rintro _ _ ⟨rfl, rfl⟩
  refine ev_eq (lv' := [(0, .ref 0), (1, .int (zI (z1))), (2, .int (zI (z2))), (3, .int (zI (z3)))]) (st' := [.int (-1)]) (w' := modW 0 S (((up X.rf 1 (X.rf 1 + 1)), X.wo, X.ta, X.ow, X.sl, X.sh, X.lt, X.ty, X.pl, X.nu, X.od, X.tt, X.oo, X.on, X.wn, X.pd, X.li, X.rr, X.rn, X.dr) : ModN) K) rfl rfl rfl ?_
  exact ev_iret dX7_kind_14 rfl mod_le (Nat.le_refl _) (Nat.le_refl _) ⟨rfl, _, rfl, hM, rfl, rfl, rfl, rfl, rfl⟩
theorem bX7_kind_15_18 {l : Launch} {E : XE} : Snd l E mX7_kind 15 18 (xs [x_iload 2, x_push (.int (nI 0)), x_push (.int (nI 5))]) := Snd.cons (snd_iload_n (i := 2) dX7_kind_15 rfl) (Snd.cons (snd_iconst (v := nI 0) dX7_kind_16 (by decide)) (Snd.cons (snd_iconst (v := nI 5) dX7_kind_17 (by decide)) Snd.nil))
theorem bX7_kind_24_27 {l : Launch} {E : XE} : Snd l E mX7_kind 24 27 (xs [x_aload 0, x_push (.int (-2))]) := Snd.cons (snd_aload_n (i := 0) dX7_kind_24 rfl) (Snd.cons (snd_bipush (v := -2) dX7_kind_25 (by decide)) Snd.nil)
set_option maxHeartbeats 4000000 in
set_option maxRecDepth 100000 in
theorem q_kind_2a {l : Launch} {E : XE} (S : SaleN) (X : ModN) (K : Option (Nat → Nat)) (z1 z2 z3 : Int) (hS : SaleOK S) (hM : MOK S X) (rz1 : -2147483648 ≤ z1 ∧ z1 < 2147483648) (rz2 : -2147483648 ≤ z2 ∧ z2 < 2147483648) (rz3 : -2147483648 ≤ z3 ∧ z3 < 2147483648) (h : 0 ≤ z1 ∧ z1 < 5) (h2 : z2 < 0) : MetE l E mX7_kind (1) 0 0 [.ref 0, .int (zI (z1)), .int (zI (z2)), .int (zI (z3))] (modW 0 S X K) (MP S K (X.lt) (X.ty) (X.rr) (X.rn) ((up X.rf 2 (X.rf 2 + 1))) (some (.int (-2)))) := by
  refine MetE.of (by decide +kernel) (Nat.le_of_ble_eq_true rfl) ?_
  have hca := hS.1
  have hpw := pow_ca hS
  have hac := ac_lt hS
  have hshl := shl_le hS
  
  refine ev_eq (lv' := [(0, .ref 0), (1, .int (zI (z1))), (2, .int (zI (z2))), (3, .int (zI (z3)))]) (st' := []) (w' := modW 0 S X K) rfl rfl rfl ?_
  refine ev_b bX7_kind_0_3 (lv' := [(0, .ref 0), (1, .int (zI (z1))), (2, .int (zI (z2))), (3, .int (zI (z3)))]) (st' := [.int (nI (4)), .int (nI (0)), .int (zI (z1))]) (w2 := modW 0 S X K) rfl ?_
  refine ev_callS (Yc := mX7_isIn) [] dX7_kind_3 tw_1036 kX7_isIn (m_X7_isIn_z z1 0 4 rz1 (by decide) (by decide)) rfl (st := []) rfl (by decide) rfl (by decide) (Nat.le_of_ble_eq_true rfl) (Nat.le_refl _) (Nat.le_refl _) (fun r w' h => by obtain ⟨-, rfl⟩ := h; exact Nat.le_of_ble_eq_true rfl) ?_
  rintro _ _ ⟨rfl, rfl⟩
  refine ev_eq (lv' := [(0, .ref 0), (1, .int (zI (z1))), (2, .int (zI (z2))), (3, .int (zI (z3)))]) (st' := [.int (nI (b01 (((0 : Nat) : Int) ≤ z1 ∧ z1 ≤ ((4 : Nat) : Int))))]) (w' := modW 0 S X K) rfl rfl rfl ?_
  refine ev_ifne_b (tgt := 15) dX7_kind_6 (by decide) (fun h6 => ?_) (fun h6 => (by exfalso; omega))
  refine ev_b bX7_kind_15_18 (lv' := [(0, .ref 0), (1, .int (zI (z1))), (2, .int (zI (z2))), (3, .int (zI (z3)))]) (st' := [.int (nI (5)), .int (nI (0)), .int (zI (z2))]) (w2 := modW 0 S X K) rfl ?_
  refine ev_callS (Yc := mX7_isIn) [] dX7_kind_18 tw_1036 kX7_isIn (m_X7_isIn_z z2 0 5 rz2 (by decide) (by decide)) rfl (st := []) rfl (by decide) rfl (by decide) (Nat.le_of_ble_eq_true rfl) (Nat.le_refl _) (Nat.le_refl _) (fun r w' h => by obtain ⟨-, rfl⟩ := h; exact Nat.le_of_ble_eq_true rfl) ?_
  rintro _ _ ⟨rfl, rfl⟩
  refine ev_eq (lv' := [(0, .ref 0), (1, .int (zI (z1))), (2, .int (zI (z2))), (3, .int (zI (z3)))]) (st' := [.int (nI (b01 (((0 : Nat) : Int) ≤ z2 ∧ z2 ≤ ((5 : Nat) : Int))))]) (w' := modW 0 S X K) rfl rfl rfl ?_
  refine ev_ifne_b (tgt := 31) dX7_kind_21 (by decide) (fun h21 => (by exfalso; omega)) (fun h21 => ?_)
  refine ev_b bX7_kind_24_27 (lv' := [(0, .ref 0), (1, .int (zI (z1))), (2, .int (zI (z2))), (3, .int (zI (z3)))]) (st' := [.int (-2), .ref 0]) (w2 := modW 0 S X K) rfl ?_
  refine ev_callM (Yc := mX7_refuses) (st := []) dX7_kind_27 tw_1012 kX7_refuses (m_X7_refuses_2 S X K) rfl rfl rfl rfl (by decide) (Nat.le_of_ble_eq_true rfl) (Nat.le_refl _) (Nat.le_refl _) (fun r w' h => by obtain ⟨-, rfl⟩ := h; exact mod_eq) ?_
  rintro _ _ ⟨rfl, rfl⟩
  refine ev_eq (lv' := [(0, .ref 0), (1, .int (zI (z1))), (2, .int (zI (z2))), (3, .int (zI (z3)))]) (st' := [.int (-2)]) (w' := modW 0 S (((up X.rf 2 (X.rf 2 + 1)), X.wo, X.ta, X.ow, X.sl, X.sh, X.lt, X.ty, X.pl, X.nu, X.od, X.tt, X.oo, X.on, X.wn, X.pd, X.li, X.rr, X.rn, X.dr) : ModN) K) rfl rfl rfl ?_
  exact ev_iret dX7_kind_30 rfl mod_le (Nat.le_refl _) (Nat.le_refl _) ⟨rfl, _, rfl, hM, rfl, rfl, rfl, rfl, rfl⟩
set_option maxHeartbeats 4000000 in
set_option maxRecDepth 100000 in
theorem q_kind_2b {l : Launch} {E : XE} (S : SaleN) (X : ModN) (K : Option (Nat → Nat)) (z1 z2 z3 : Int) (hS : SaleOK S) (hM : MOK S X) (rz1 : -2147483648 ≤ z1 ∧ z1 < 2147483648) (rz2 : -2147483648 ≤ z2 ∧ z2 < 2147483648) (rz3 : -2147483648 ≤ z3 ∧ z3 < 2147483648) (h : 0 ≤ z1 ∧ z1 < 5) (h2 : 5 < z2) : MetE l E mX7_kind (1) 0 0 [.ref 0, .int (zI (z1)), .int (zI (z2)), .int (zI (z3))] (modW 0 S X K) (MP S K (X.lt) (X.ty) (X.rr) (X.rn) ((up X.rf 2 (X.rf 2 + 1))) (some (.int (-2)))) := by
  refine MetE.of (by decide +kernel) (Nat.le_of_ble_eq_true rfl) ?_
  have hca := hS.1
  have hpw := pow_ca hS
  have hac := ac_lt hS
  have hshl := shl_le hS
  
  refine ev_eq (lv' := [(0, .ref 0), (1, .int (zI (z1))), (2, .int (zI (z2))), (3, .int (zI (z3)))]) (st' := []) (w' := modW 0 S X K) rfl rfl rfl ?_
  refine ev_b bX7_kind_0_3 (lv' := [(0, .ref 0), (1, .int (zI (z1))), (2, .int (zI (z2))), (3, .int (zI (z3)))]) (st' := [.int (nI (4)), .int (nI (0)), .int (zI (z1))]) (w2 := modW 0 S X K) rfl ?_
  refine ev_callS (Yc := mX7_isIn) [] dX7_kind_3 tw_1036 kX7_isIn (m_X7_isIn_z z1 0 4 rz1 (by decide) (by decide)) rfl (st := []) rfl (by decide) rfl (by decide) (Nat.le_of_ble_eq_true rfl) (Nat.le_refl _) (Nat.le_refl _) (fun r w' h => by obtain ⟨-, rfl⟩ := h; exact Nat.le_of_ble_eq_true rfl) ?_
  rintro _ _ ⟨rfl, rfl⟩
  refine ev_eq (lv' := [(0, .ref 0), (1, .int (zI (z1))), (2, .int (zI (z2))), (3, .int (zI (z3)))]) (st' := [.int (nI (b01 (((0 : Nat) : Int) ≤ z1 ∧ z1 ≤ ((4 : Nat) : Int))))]) (w' := modW 0 S X K) rfl rfl rfl ?_
  refine ev_ifne_b (tgt := 15) dX7_kind_6 (by decide) (fun h6 => ?_) (fun h6 => (by exfalso; omega))
  refine ev_b bX7_kind_15_18 (lv' := [(0, .ref 0), (1, .int (zI (z1))), (2, .int (zI (z2))), (3, .int (zI (z3)))]) (st' := [.int (nI (5)), .int (nI (0)), .int (zI (z2))]) (w2 := modW 0 S X K) rfl ?_
  refine ev_callS (Yc := mX7_isIn) [] dX7_kind_18 tw_1036 kX7_isIn (m_X7_isIn_z z2 0 5 rz2 (by decide) (by decide)) rfl (st := []) rfl (by decide) rfl (by decide) (Nat.le_of_ble_eq_true rfl) (Nat.le_refl _) (Nat.le_refl _) (fun r w' h => by obtain ⟨-, rfl⟩ := h; exact Nat.le_of_ble_eq_true rfl) ?_
  rintro _ _ ⟨rfl, rfl⟩
  refine ev_eq (lv' := [(0, .ref 0), (1, .int (zI (z1))), (2, .int (zI (z2))), (3, .int (zI (z3)))]) (st' := [.int (nI (b01 (((0 : Nat) : Int) ≤ z2 ∧ z2 ≤ ((5 : Nat) : Int))))]) (w' := modW 0 S X K) rfl rfl rfl ?_
  refine ev_ifne_b (tgt := 31) dX7_kind_21 (by decide) (fun h21 => (by exfalso; omega)) (fun h21 => ?_)
  refine ev_b bX7_kind_24_27 (lv' := [(0, .ref 0), (1, .int (zI (z1))), (2, .int (zI (z2))), (3, .int (zI (z3)))]) (st' := [.int (-2), .ref 0]) (w2 := modW 0 S X K) rfl ?_
  refine ev_callM (Yc := mX7_refuses) (st := []) dX7_kind_27 tw_1012 kX7_refuses (m_X7_refuses_2 S X K) rfl rfl rfl rfl (by decide) (Nat.le_of_ble_eq_true rfl) (Nat.le_refl _) (Nat.le_refl _) (fun r w' h => by obtain ⟨-, rfl⟩ := h; exact mod_eq) ?_
  rintro _ _ ⟨rfl, rfl⟩
  refine ev_eq (lv' := [(0, .ref 0), (1, .int (zI (z1))), (2, .int (zI (z2))), (3, .int (zI (z3)))]) (st' := [.int (-2)]) (w' := modW 0 S (((up X.rf 2 (X.rf 2 + 1)), X.wo, X.ta, X.ow, X.sl, X.sh, X.lt, X.ty, X.pl, X.nu, X.od, X.tt, X.oo, X.on, X.wn, X.pd, X.li, X.rr, X.rn, X.dr) : ModN) K) rfl rfl rfl ?_
  exact ev_iret dX7_kind_30 rfl mod_le (Nat.le_refl _) (Nat.le_refl _) ⟨rfl, _, rfl, hM, rfl, rfl, rfl, rfl, rfl⟩
theorem bX7_kind_31_32 {l : Launch} {E : XE} : Snd l E mX7_kind 31 32 (xs [x_iload 3]) := Snd.cons (snd_iload_n (i := 3) dX7_kind_31 rfl) Snd.nil
theorem bX7_kind_35_38 {l : Launch} {E : XE} : Snd l E mX7_kind 35 38 (xs [x_aload 0, x_push (.int (-4))]) := Snd.cons (snd_aload_n (i := 0) dX7_kind_35 rfl) (Snd.cons (snd_bipush (v := -4) dX7_kind_36 (by decide)) Snd.nil)
set_option maxHeartbeats 4000000 in
set_option maxRecDepth 100000 in
theorem q_kind_4 {l : Launch} {E : XE} (S : SaleN) (X : ModN) (K : Option (Nat → Nat)) (z1 z2 z3 : Int) (hS : SaleOK S) (hM : MOK S X) (rz1 : -2147483648 ≤ z1 ∧ z1 < 2147483648) (rz2 : -2147483648 ≤ z2 ∧ z2 < 2147483648) (rz3 : -2147483648 ≤ z3 ∧ z3 < 2147483648) (h : 0 ≤ z1 ∧ z1 < 5) (h2 : 0 ≤ z2 ∧ z2 < 6) (h3 : z3 < 0) : MetE l E mX7_kind (1) 0 0 [.ref 0, .int (zI (z1)), .int (zI (z2)), .int (zI (z3))] (modW 0 S X K) (MP S K (X.lt) (X.ty) (X.rr) (X.rn) ((up X.rf 4 (X.rf 4 + 1))) (some (.int (-4)))) := by
  refine MetE.of (by decide +kernel) (Nat.le_of_ble_eq_true rfl) ?_
  have hca := hS.1
  have hpw := pow_ca hS
  have hac := ac_lt hS
  have hshl := shl_le hS
  
  refine ev_eq (lv' := [(0, .ref 0), (1, .int (zI (z1))), (2, .int (zI (z2))), (3, .int (zI (z3)))]) (st' := []) (w' := modW 0 S X K) rfl rfl rfl ?_
  refine ev_b bX7_kind_0_3 (lv' := [(0, .ref 0), (1, .int (zI (z1))), (2, .int (zI (z2))), (3, .int (zI (z3)))]) (st' := [.int (nI (4)), .int (nI (0)), .int (zI (z1))]) (w2 := modW 0 S X K) rfl ?_
  refine ev_callS (Yc := mX7_isIn) [] dX7_kind_3 tw_1036 kX7_isIn (m_X7_isIn_z z1 0 4 rz1 (by decide) (by decide)) rfl (st := []) rfl (by decide) rfl (by decide) (Nat.le_of_ble_eq_true rfl) (Nat.le_refl _) (Nat.le_refl _) (fun r w' h => by obtain ⟨-, rfl⟩ := h; exact Nat.le_of_ble_eq_true rfl) ?_
  rintro _ _ ⟨rfl, rfl⟩
  refine ev_eq (lv' := [(0, .ref 0), (1, .int (zI (z1))), (2, .int (zI (z2))), (3, .int (zI (z3)))]) (st' := [.int (nI (b01 (((0 : Nat) : Int) ≤ z1 ∧ z1 ≤ ((4 : Nat) : Int))))]) (w' := modW 0 S X K) rfl rfl rfl ?_
  refine ev_ifne_b (tgt := 15) dX7_kind_6 (by decide) (fun h6 => ?_) (fun h6 => (by exfalso; omega))
  refine ev_b bX7_kind_15_18 (lv' := [(0, .ref 0), (1, .int (zI (z1))), (2, .int (zI (z2))), (3, .int (zI (z3)))]) (st' := [.int (nI (5)), .int (nI (0)), .int (zI (z2))]) (w2 := modW 0 S X K) rfl ?_
  refine ev_callS (Yc := mX7_isIn) [] dX7_kind_18 tw_1036 kX7_isIn (m_X7_isIn_z z2 0 5 rz2 (by decide) (by decide)) rfl (st := []) rfl (by decide) rfl (by decide) (Nat.le_of_ble_eq_true rfl) (Nat.le_refl _) (Nat.le_refl _) (fun r w' h => by obtain ⟨-, rfl⟩ := h; exact Nat.le_of_ble_eq_true rfl) ?_
  rintro _ _ ⟨rfl, rfl⟩
  refine ev_eq (lv' := [(0, .ref 0), (1, .int (zI (z1))), (2, .int (zI (z2))), (3, .int (zI (z3)))]) (st' := [.int (nI (b01 (((0 : Nat) : Int) ≤ z2 ∧ z2 ≤ ((5 : Nat) : Int))))]) (w' := modW 0 S X K) rfl rfl rfl ?_
  refine ev_ifne_b (tgt := 31) dX7_kind_21 (by decide) (fun h21 => ?_) (fun h21 => (by exfalso; omega))
  refine ev_b bX7_kind_31_32 (lv' := [(0, .ref 0), (1, .int (zI (z1))), (2, .int (zI (z2))), (3, .int (zI (z3)))]) (st' := [.int (zI (z3))]) (w2 := modW 0 S X K) rfl ?_
  refine ev_if_ge_z (tgt := 42) (by constructor <;> omega) dX7_kind_32 (by decide) (fun h32 => (by exfalso; omega)) (fun h32 => ?_)
  refine ev_b bX7_kind_35_38 (lv' := [(0, .ref 0), (1, .int (zI (z1))), (2, .int (zI (z2))), (3, .int (zI (z3)))]) (st' := [.int (-4), .ref 0]) (w2 := modW 0 S X K) rfl ?_
  refine ev_callM (Yc := mX7_refuses) (st := []) dX7_kind_38 tw_1012 kX7_refuses (m_X7_refuses_4 S X K) rfl rfl rfl rfl (by decide) (Nat.le_of_ble_eq_true rfl) (Nat.le_refl _) (Nat.le_refl _) (fun r w' h => by obtain ⟨-, rfl⟩ := h; exact mod_eq) ?_
  rintro _ _ ⟨rfl, rfl⟩
  refine ev_eq (lv' := [(0, .ref 0), (1, .int (zI (z1))), (2, .int (zI (z2))), (3, .int (zI (z3)))]) (st' := [.int (-4)]) (w' := modW 0 S (((up X.rf 4 (X.rf 4 + 1)), X.wo, X.ta, X.ow, X.sl, X.sh, X.lt, X.ty, X.pl, X.nu, X.od, X.tt, X.oo, X.on, X.wn, X.pd, X.li, X.rr, X.rn, X.dr) : ModN) K) rfl rfl rfl ?_
  exact ev_iret dX7_kind_41 rfl mod_le (Nat.le_refl _) (Nat.le_refl _) ⟨rfl, _, rfl, hM, rfl, rfl, rfl, rfl, rfl⟩
theorem bX7_kind_42_45 {l : Launch} {E : XE} : Snd l E mX7_kind 42 45 (xs [x_iload 3, x_push (.int (nI 9))]) := Snd.cons (snd_iload_n (i := 3) dX7_kind_42 rfl) (Snd.cons (snd_bipush (v := nI 9) dX7_kind_43 (by decide)) Snd.nil)
theorem bX7_kind_48_51 {l : Launch} {E : XE} : Snd l E mX7_kind 48 51 (xs [x_aload 0, x_push (.int (-6))]) := Snd.cons (snd_aload_n (i := 0) dX7_kind_48 rfl) (Snd.cons (snd_bipush (v := -6) dX7_kind_49 (by decide)) Snd.nil)
set_option maxHeartbeats 4000000 in
set_option maxRecDepth 100000 in
theorem q_kind_6 {l : Launch} {E : XE} (S : SaleN) (X : ModN) (K : Option (Nat → Nat)) (z1 z2 z3 : Int) (hS : SaleOK S) (hM : MOK S X) (rz1 : -2147483648 ≤ z1 ∧ z1 < 2147483648) (rz2 : -2147483648 ≤ z2 ∧ z2 < 2147483648) (rz3 : -2147483648 ≤ z3 ∧ z3 < 2147483648) (h : 0 ≤ z1 ∧ z1 < 5) (h2 : 0 ≤ z2 ∧ z2 < 6) (h3 : 9 < z3) : MetE l E mX7_kind (1) 0 0 [.ref 0, .int (zI (z1)), .int (zI (z2)), .int (zI (z3))] (modW 0 S X K) (MP S K (X.lt) (X.ty) (X.rr) (X.rn) ((up X.rf 6 (X.rf 6 + 1))) (some (.int (-6)))) := by
  refine MetE.of (by decide +kernel) (Nat.le_of_ble_eq_true rfl) ?_
  have hca := hS.1
  have hpw := pow_ca hS
  have hac := ac_lt hS
  have hshl := shl_le hS
  
  refine ev_eq (lv' := [(0, .ref 0), (1, .int (zI (z1))), (2, .int (zI (z2))), (3, .int (zI (z3)))]) (st' := []) (w' := modW 0 S X K) rfl rfl rfl ?_
  refine ev_b bX7_kind_0_3 (lv' := [(0, .ref 0), (1, .int (zI (z1))), (2, .int (zI (z2))), (3, .int (zI (z3)))]) (st' := [.int (nI (4)), .int (nI (0)), .int (zI (z1))]) (w2 := modW 0 S X K) rfl ?_
  refine ev_callS (Yc := mX7_isIn) [] dX7_kind_3 tw_1036 kX7_isIn (m_X7_isIn_z z1 0 4 rz1 (by decide) (by decide)) rfl (st := []) rfl (by decide) rfl (by decide) (Nat.le_of_ble_eq_true rfl) (Nat.le_refl _) (Nat.le_refl _) (fun r w' h => by obtain ⟨-, rfl⟩ := h; exact Nat.le_of_ble_eq_true rfl) ?_
  rintro _ _ ⟨rfl, rfl⟩
  refine ev_eq (lv' := [(0, .ref 0), (1, .int (zI (z1))), (2, .int (zI (z2))), (3, .int (zI (z3)))]) (st' := [.int (nI (b01 (((0 : Nat) : Int) ≤ z1 ∧ z1 ≤ ((4 : Nat) : Int))))]) (w' := modW 0 S X K) rfl rfl rfl ?_
  refine ev_ifne_b (tgt := 15) dX7_kind_6 (by decide) (fun h6 => ?_) (fun h6 => (by exfalso; omega))
  refine ev_b bX7_kind_15_18 (lv' := [(0, .ref 0), (1, .int (zI (z1))), (2, .int (zI (z2))), (3, .int (zI (z3)))]) (st' := [.int (nI (5)), .int (nI (0)), .int (zI (z2))]) (w2 := modW 0 S X K) rfl ?_
  refine ev_callS (Yc := mX7_isIn) [] dX7_kind_18 tw_1036 kX7_isIn (m_X7_isIn_z z2 0 5 rz2 (by decide) (by decide)) rfl (st := []) rfl (by decide) rfl (by decide) (Nat.le_of_ble_eq_true rfl) (Nat.le_refl _) (Nat.le_refl _) (fun r w' h => by obtain ⟨-, rfl⟩ := h; exact Nat.le_of_ble_eq_true rfl) ?_
  rintro _ _ ⟨rfl, rfl⟩
  refine ev_eq (lv' := [(0, .ref 0), (1, .int (zI (z1))), (2, .int (zI (z2))), (3, .int (zI (z3)))]) (st' := [.int (nI (b01 (((0 : Nat) : Int) ≤ z2 ∧ z2 ≤ ((5 : Nat) : Int))))]) (w' := modW 0 S X K) rfl rfl rfl ?_
  refine ev_ifne_b (tgt := 31) dX7_kind_21 (by decide) (fun h21 => ?_) (fun h21 => (by exfalso; omega))
  refine ev_b bX7_kind_31_32 (lv' := [(0, .ref 0), (1, .int (zI (z1))), (2, .int (zI (z2))), (3, .int (zI (z3)))]) (st' := [.int (zI (z3))]) (w2 := modW 0 S X K) rfl ?_
  refine ev_if_ge_z (tgt := 42) (by constructor <;> omega) dX7_kind_32 (by decide) (fun h32 => ?_) (fun h32 => (by exfalso; omega))
  refine ev_b bX7_kind_42_45 (lv' := [(0, .ref 0), (1, .int (zI (z1))), (2, .int (zI (z2))), (3, .int (zI (z3)))]) (st' := [.int (nI (9)), .int (zI (z3))]) (w2 := modW 0 S X K) rfl ?_
  refine ev_top (y := zI (((9 : Nat) : Int))) (zI_nat _).symm ?_
  refine ev_icmp_le_z (tgt := 55) (by constructor <;> omega) (by constructor <;> omega) dX7_kind_45 (by decide) (fun h45 => (by exfalso; omega)) (fun h45 => ?_)
  refine ev_b bX7_kind_48_51 (lv' := [(0, .ref 0), (1, .int (zI (z1))), (2, .int (zI (z2))), (3, .int (zI (z3)))]) (st' := [.int (-6), .ref 0]) (w2 := modW 0 S X K) rfl ?_
  refine ev_callM (Yc := mX7_refuses) (st := []) dX7_kind_51 tw_1012 kX7_refuses (m_X7_refuses_6 S X K) rfl rfl rfl rfl (by decide) (Nat.le_of_ble_eq_true rfl) (Nat.le_refl _) (Nat.le_refl _) (fun r w' h => by obtain ⟨-, rfl⟩ := h; exact mod_eq) ?_
  rintro _ _ ⟨rfl, rfl⟩
  refine ev_eq (lv' := [(0, .ref 0), (1, .int (zI (z1))), (2, .int (zI (z2))), (3, .int (zI (z3)))]) (st' := [.int (-6)]) (w' := modW 0 S (((up X.rf 6 (X.rf 6 + 1)), X.wo, X.ta, X.ow, X.sl, X.sh, X.lt, X.ty, X.pl, X.nu, X.od, X.tt, X.oo, X.on, X.wn, X.pd, X.li, X.rr, X.rn, X.dr) : ModN) K) rfl rfl rfl ?_
  exact ev_iret dX7_kind_54 rfl mod_le (Nat.le_refl _) (Nat.le_refl _) ⟨rfl, _, rfl, hM, rfl, rfl, rfl, rfl, rfl⟩
theorem bX7_kind_55_62 {l : Launch} {E : XE} : Snd l E mX7_kind 55 62 (xs [x_push (.int (nI 10)), x_aload 0, x_get 8 1, x_iload 1]) := Snd.cons (snd_bipush (v := nI 10) dX7_kind_55 (by decide)) (Snd.cons (snd_aload_n (i := 0) dX7_kind_57 rfl) (Snd.cons (snd_get (ci := 8) (k := 1) dX7_kind_58 rfl inX7 (by decide) tw_915) (Snd.cons (snd_iload_n (i := 1) dX7_kind_61 rfl) Snd.nil)))
theorem bX7_kind_64_69 {l : Launch} {E : XE} : Snd l E mX7_kind 64 69 (xs [x_aload 0, x_get 8 2, x_iload 1]) := Snd.cons (snd_aload_n (i := 0) dX7_kind_64 rfl) (Snd.cons (snd_get (ci := 8) (k := 2) dX7_kind_65 rfl inX7 (by decide) tw_916) (Snd.cons (snd_iload_n (i := 1) dX7_kind_68 rfl) Snd.nil))
theorem bX7_kind_71_79 {l : Launch} {E : XE} : Snd l E mX7_kind 71 79 (xs [x_istore 4, x_aload 0, x_get 8 1, x_iload 1, x_iload 2]) := Snd.cons (snd_istore dX7_kind_71 (by decide)) (Snd.cons (snd_aload_n (i := 0) dX7_kind_73 rfl) (Snd.cons (snd_get (ci := 8) (k := 1) dX7_kind_74 rfl inX7 (by decide) tw_915) (Snd.cons (snd_iload_n (i := 1) dX7_kind_77 rfl) (Snd.cons (snd_iload_n (i := 2) dX7_kind_78 rfl) Snd.nil))))
theorem bX7_kind_80_86 {l : Launch} {E : XE} : Snd l E mX7_kind 80 86 (xs [x_aload 0, x_get 8 2, x_iload 1, x_iload 3]) := Snd.cons (snd_aload_n (i := 0) dX7_kind_80 rfl) (Snd.cons (snd_get (ci := 8) (k := 2) dX7_kind_81 rfl inX7 (by decide) tw_916) (Snd.cons (snd_iload_n (i := 1) dX7_kind_84 rfl) (Snd.cons (snd_iload_n (i := 3) dX7_kind_85 rfl) Snd.nil)))
theorem bX7_kind_87_89 {l : Launch} {E : XE} : Snd l E mX7_kind 87 89 (xs [x_aload 0, x_push (.int (nI 1))]) := Snd.cons (snd_aload_n (i := 0) dX7_kind_87 rfl) (Snd.cons (snd_iconst (v := nI 1) dX7_kind_88 (by decide)) Snd.nil)
theorem bX7_kind_92_94 {l : Launch} {E : XE} : Snd l E mX7_kind 92 94 (xs [x_iload 4]) := Snd.cons (snd_iload dX7_kind_92) Snd.nil
set_option maxHeartbeats 4000000 in
set_option maxRecDepth 100000 in
theorem q_kind_ok {l : Launch} {E : XE} (S : SaleN) (X : ModN) (K : Option (Nat → Nat)) (b k f : Nat) (hS : SaleOK S) (hM : MOK S X) (hb : b < 5) (hk : k < 6) (hf : f ≤ 9) : MetE l E mX7_kind (1) 0 0 [.ref 0, .int (nI (b)), .int (nI (k)), .int (nI (f))] (modW 0 S X K) (MP (kindS S b k f) K (X.lt) (X.ty) (X.rr) (X.rn) (X.rf) (some (.int (nI (10 * S.kd b + S.fg b))))) := by
  refine MetE.of (by decide +kernel) (Nat.le_of_ble_eq_true rfl) ?_
  have hca := hS.1
  have hpw := pow_ca hS
  have hac := ac_lt hS
  have hshl := shl_le hS
  
  refine ev_eq (lv' := [(0, .ref 0), (1, .int (nI (b))), (2, .int (nI (k))), (3, .int (nI (f)))]) (st' := []) (w' := modW 0 S X K) rfl rfl rfl ?_
  refine ev_b bX7_kind_0_3 (lv' := [(0, .ref 0), (1, .int (nI (b))), (2, .int (nI (k))), (3, .int (nI (f)))]) (st' := [.int (nI (4)), .int (nI (0)), .int (nI (b))]) (w2 := modW 0 S X K) rfl ?_
  refine ev_callS (Yc := mX7_isIn) [] dX7_kind_3 tw_1036 kX7_isIn (m_X7_isIn_n b 0 4 (by omega) (by decide) (by decide)) rfl (st := []) rfl (by decide) rfl (by decide) (Nat.le_of_ble_eq_true rfl) (Nat.le_refl _) (Nat.le_refl _) (fun r w' h => by obtain ⟨-, rfl⟩ := h; exact Nat.le_of_ble_eq_true rfl) ?_
  rintro _ _ ⟨rfl, rfl⟩
  refine ev_eq (lv' := [(0, .ref 0), (1, .int (nI (b))), (2, .int (nI (k))), (3, .int (nI (f)))]) (st' := [.int (nI (b01 (0 ≤ b ∧ b ≤ 4)))]) (w' := modW 0 S X K) rfl rfl rfl ?_
  refine ev_ifne_b (tgt := 15) dX7_kind_6 (by decide) (fun h6 => ?_) (fun h6 => (by exfalso; omega))
  refine ev_b bX7_kind_15_18 (lv' := [(0, .ref 0), (1, .int (nI (b))), (2, .int (nI (k))), (3, .int (nI (f)))]) (st' := [.int (nI (5)), .int (nI (0)), .int (nI (k))]) (w2 := modW 0 S X K) rfl ?_
  refine ev_callS (Yc := mX7_isIn) [] dX7_kind_18 tw_1036 kX7_isIn (m_X7_isIn_n k 0 5 (by omega) (by decide) (by decide)) rfl (st := []) rfl (by decide) rfl (by decide) (Nat.le_of_ble_eq_true rfl) (Nat.le_refl _) (Nat.le_refl _) (fun r w' h => by obtain ⟨-, rfl⟩ := h; exact Nat.le_of_ble_eq_true rfl) ?_
  rintro _ _ ⟨rfl, rfl⟩
  refine ev_eq (lv' := [(0, .ref 0), (1, .int (nI (b))), (2, .int (nI (k))), (3, .int (nI (f)))]) (st' := [.int (nI (b01 (0 ≤ k ∧ k ≤ 5)))]) (w' := modW 0 S X K) rfl rfl rfl ?_
  refine ev_ifne_b (tgt := 31) dX7_kind_21 (by decide) (fun h21 => ?_) (fun h21 => (by exfalso; omega))
  refine ev_b bX7_kind_31_32 (lv' := [(0, .ref 0), (1, .int (nI (b))), (2, .int (nI (k))), (3, .int (nI (f)))]) (st' := [.int (nI (f))]) (w2 := modW 0 S X K) rfl ?_
  refine ev_if_ge_n (tgt := 42) (by omega) dX7_kind_32 (by decide) (fun h32 => ?_) (fun h32 => (by exfalso; omega))
  refine ev_b bX7_kind_42_45 (lv' := [(0, .ref 0), (1, .int (nI (b))), (2, .int (nI (k))), (3, .int (nI (f)))]) (st' := [.int (nI (9)), .int (nI (f))]) (w2 := modW 0 S X K) rfl ?_
  refine ev_icmp_le_n (tgt := 55) (by omega) (by decide) dX7_kind_45 (by decide) (fun h45 => ?_) (fun h45 => (by exfalso; omega))
  refine ev_b bX7_kind_55_62 (lv' := [(0, .ref 0), (1, .int (nI (b))), (2, .int (nI (k))), (3, .int (nI (f)))]) (st' := [.int (nI (b)), .ref 2, .int (nI (10))]) (w2 := modW 0 S X K) rfl ?_
  refine ev_iald_n (f := S.kd) dX7_kind_62 rfl (by omega) (by decide) ?_
  refine ev_imul_n dX7_kind_63 ?_
  refine ev_b bX7_kind_64_69 (lv' := [(0, .ref 0), (1, .int (nI (b))), (2, .int (nI (k))), (3, .int (nI (f)))]) (st' := [.int (nI (b)), .ref 3, .int (nI (10 * (S.kd b)))]) (w2 := modW 0 S X K) rfl ?_
  refine ev_iald_n (f := S.fg) dX7_kind_69 rfl (by omega) (by decide) ?_
  refine ev_iadd_n dX7_kind_70 ?_
  refine ev_b bX7_kind_71_79 (lv' := [(4, .int (nI ((10 * (S.kd b)) + (S.fg b)))), (0, .ref 0), (1, .int (nI (b))), (2, .int (nI (k))), (3, .int (nI (f)))]) (st' := [.int (nI (k)), .int (nI (b)), .ref 2]) (w2 := modW 0 S X K) rfl ?_
  refine ev_iast_n (f := S.kd) dX7_kind_79 rfl (by omega) (by decide) ?_
  refine ev_eq (w' := modW 0 ((S.bd, S.st, S.pr, S.ow, up S.kd b k, S.fg, S.rs, S.ca, S.ac) : SaleN) X K) rfl rfl rfl ?_
  refine ev_b bX7_kind_80_86 (lv' := [(4, .int (nI ((10 * (S.kd b)) + (S.fg b)))), (0, .ref 0), (1, .int (nI (b))), (2, .int (nI (k))), (3, .int (nI (f)))]) (st' := [.int (nI (f)), .int (nI (b)), .ref 3]) (w2 := modW 0 ((S.bd, S.st, S.pr, S.ow, up S.kd b k, S.fg, S.rs, S.ca, S.ac) : SaleN) X K) rfl ?_
  refine ev_iast_n (f := S.fg) dX7_kind_86 rfl (by omega) (by decide) ?_
  refine ev_eq (w' := modW 0 ((S.bd, S.st, S.pr, S.ow, up S.kd b k, up S.fg b f, S.rs, S.ca, S.ac) : SaleN) X K) rfl rfl rfl ?_
  refine ev_b bX7_kind_87_89 (lv' := [(4, .int (nI ((10 * (S.kd b)) + (S.fg b)))), (0, .ref 0), (1, .int (nI (b))), (2, .int (nI (k))), (3, .int (nI (f)))]) (st' := [.int (nI (1)), .ref 0]) (w2 := modW 0 ((S.bd, S.st, S.pr, S.ow, up S.kd b k, up S.fg b f, S.rs, S.ca, S.ac) : SaleN) X K) rfl ?_
  refine snd_put (ci := 8) (k := 12) (a := 0) dX7_kind_89 rfl inX7 tyX7_ok nmX7 (by decide) tw_926 rfl rfl (Nat.le_of_ble_eq_true rfl) (fun _ => rfl) (fun _ => rfl) ?_
  refine ev_eq (w' := modW 0 ((S.bd, S.st, S.pr, S.ow, up S.kd b k, up S.fg b f, S.rs, S.ca, S.ac) : SaleN) ((X.rf, X.wo, X.ta, X.ow, 1, X.sh, X.lt, X.ty, X.pl, X.nu, X.od, X.tt, X.oo, X.on, X.wn, X.pd, X.li, X.rr, X.rn, X.dr) : ModN) K) rfl rfl rfl ?_
  refine ev_b bX7_kind_92_94 (lv' := [(4, .int (nI ((10 * (S.kd b)) + (S.fg b)))), (0, .ref 0), (1, .int (nI (b))), (2, .int (nI (k))), (3, .int (nI (f)))]) (st' := [.int (nI ((10 * (S.kd b)) + (S.fg b)))]) (w2 := modW 0 ((S.bd, S.st, S.pr, S.ow, up S.kd b k, up S.fg b f, S.rs, S.ca, S.ac) : SaleN) ((X.rf, X.wo, X.ta, X.ow, 1, X.sh, X.lt, X.ty, X.pl, X.nu, X.od, X.tt, X.oo, X.on, X.wn, X.pd, X.li, X.rr, X.rn, X.dr) : ModN) K) rfl ?_
  exact ev_iret dX7_kind_94 rfl mod_le (Nat.le_refl _) (Nat.le_refl _) ⟨rfl, _, rfl, mok_stale hM.1 rfl, rfl, rfl, rfl, rfl, rfl⟩
theorem bX7_keep_0_3 {l : Launch} {E : XE} : Snd l E mX7_keep 0 3 (xs [x_iload 1, x_push (.int (nI 0)), x_push (.int (nI 5))]) := Snd.cons (snd_iload_n (i := 1) dX7_keep_0 rfl) (Snd.cons (snd_iconst (v := nI 0) dX7_keep_1 (by decide)) (Snd.cons (snd_iconst (v := nI 5) dX7_keep_2 (by decide)) Snd.nil))
theorem bX7_keep_9_11 {l : Launch} {E : XE} : Snd l E mX7_keep 9 11 (xs [x_aload 0, x_push (.int (-1))]) := Snd.cons (snd_aload_n (i := 0) dX7_keep_9 rfl) (Snd.cons (snd_iconst (v := -1) dX7_keep_10 (by decide)) Snd.nil)
set_option maxHeartbeats 4000000 in
set_option maxRecDepth 100000 in
theorem q_keep_1 {l : Launch} {E : XE} (S : SaleN) (X : ModN) (K : Option (Nat → Nat)) (z1 z2 : Int) (hS : SaleOK S) (hM : MOK S X) (rz1 : -2147483648 ≤ z1 ∧ z1 < 2147483648) (rz2 : -2147483648 ≤ z2 ∧ z2 < 2147483648) (h : ¬ (0 ≤ z1 ∧ z1 < 6)) : MetE l E mX7_keep (1) 0 0 [.ref 0, .int (zI (z1)), .int (zI (z2))] (modW 0 S X K) (MP S K (X.lt) (X.ty) (X.rr) (X.rn) ((up X.rf 1 (X.rf 1 + 1))) (some (.int (-1)))) := by
  refine MetE.of (by decide +kernel) (Nat.le_of_ble_eq_true rfl) ?_
  have hca := hS.1
  have hpw := pow_ca hS
  have hac := ac_lt hS
  have hshl := shl_le hS
  
  refine ev_eq (lv' := [(0, .ref 0), (1, .int (zI (z1))), (2, .int (zI (z2)))]) (st' := []) (w' := modW 0 S X K) rfl rfl rfl ?_
  refine ev_b bX7_keep_0_3 (lv' := [(0, .ref 0), (1, .int (zI (z1))), (2, .int (zI (z2)))]) (st' := [.int (nI (5)), .int (nI (0)), .int (zI (z1))]) (w2 := modW 0 S X K) rfl ?_
  refine ev_callS (Yc := mX7_isIn) [] dX7_keep_3 tw_1036 kX7_isIn (m_X7_isIn_z z1 0 5 rz1 (by decide) (by decide)) rfl (st := []) rfl (by decide) rfl (by decide) (Nat.le_of_ble_eq_true rfl) (Nat.le_refl _) (Nat.le_refl _) (fun r w' h => by obtain ⟨-, rfl⟩ := h; exact Nat.le_of_ble_eq_true rfl) ?_
  rintro _ _ ⟨rfl, rfl⟩
  refine ev_eq (lv' := [(0, .ref 0), (1, .int (zI (z1))), (2, .int (zI (z2)))]) (st' := [.int (nI (b01 (((0 : Nat) : Int) ≤ z1 ∧ z1 ≤ ((5 : Nat) : Int))))]) (w' := modW 0 S X K) rfl rfl rfl ?_
  refine ev_ifne_b (tgt := 15) dX7_keep_6 (by decide) (fun h6 => (by exfalso; omega)) (fun h6 => ?_)
  refine ev_b bX7_keep_9_11 (lv' := [(0, .ref 0), (1, .int (zI (z1))), (2, .int (zI (z2)))]) (st' := [.int (-1), .ref 0]) (w2 := modW 0 S X K) rfl ?_
  refine ev_callM (Yc := mX7_refuses) (st := []) dX7_keep_11 tw_1012 kX7_refuses (m_X7_refuses_1 S X K) rfl rfl rfl rfl (by decide) (Nat.le_of_ble_eq_true rfl) (Nat.le_refl _) (Nat.le_refl _) (fun r w' h => by obtain ⟨-, rfl⟩ := h; exact mod_eq) ?_
  rintro _ _ ⟨rfl, rfl⟩
  refine ev_eq (lv' := [(0, .ref 0), (1, .int (zI (z1))), (2, .int (zI (z2)))]) (st' := [.int (-1)]) (w' := modW 0 S (((up X.rf 1 (X.rf 1 + 1)), X.wo, X.ta, X.ow, X.sl, X.sh, X.lt, X.ty, X.pl, X.nu, X.od, X.tt, X.oo, X.on, X.wn, X.pd, X.li, X.rr, X.rn, X.dr) : ModN) K) rfl rfl rfl ?_
  exact ev_iret dX7_keep_14 rfl mod_le (Nat.le_refl _) (Nat.le_refl _) ⟨rfl, _, rfl, hM, rfl, rfl, rfl, rfl, rfl⟩
theorem bX7_keep_15_16 {l : Launch} {E : XE} : Snd l E mX7_keep 15 16 (xs [x_iload 2]) := Snd.cons (snd_iload_n (i := 2) dX7_keep_15 rfl) Snd.nil
theorem bX7_keep_19_22 {l : Launch} {E : XE} : Snd l E mX7_keep 19 22 (xs [x_aload 0, x_push (.int (-4))]) := Snd.cons (snd_aload_n (i := 0) dX7_keep_19 rfl) (Snd.cons (snd_bipush (v := -4) dX7_keep_20 (by decide)) Snd.nil)
set_option maxHeartbeats 4000000 in
set_option maxRecDepth 100000 in
theorem q_keep_4 {l : Launch} {E : XE} (S : SaleN) (X : ModN) (K : Option (Nat → Nat)) (z1 z2 : Int) (hS : SaleOK S) (hM : MOK S X) (rz1 : -2147483648 ≤ z1 ∧ z1 < 2147483648) (rz2 : -2147483648 ≤ z2 ∧ z2 < 2147483648) (h : 0 ≤ z1 ∧ z1 < 6) (h2 : z2 < 0) : MetE l E mX7_keep (1) 0 0 [.ref 0, .int (zI (z1)), .int (zI (z2))] (modW 0 S X K) (MP S K (X.lt) (X.ty) (X.rr) (X.rn) ((up X.rf 4 (X.rf 4 + 1))) (some (.int (-4)))) := by
  refine MetE.of (by decide +kernel) (Nat.le_of_ble_eq_true rfl) ?_
  have hca := hS.1
  have hpw := pow_ca hS
  have hac := ac_lt hS
  have hshl := shl_le hS
  
  refine ev_eq (lv' := [(0, .ref 0), (1, .int (zI (z1))), (2, .int (zI (z2)))]) (st' := []) (w' := modW 0 S X K) rfl rfl rfl ?_
  refine ev_b bX7_keep_0_3 (lv' := [(0, .ref 0), (1, .int (zI (z1))), (2, .int (zI (z2)))]) (st' := [.int (nI (5)), .int (nI (0)), .int (zI (z1))]) (w2 := modW 0 S X K) rfl ?_
  refine ev_callS (Yc := mX7_isIn) [] dX7_keep_3 tw_1036 kX7_isIn (m_X7_isIn_z z1 0 5 rz1 (by decide) (by decide)) rfl (st := []) rfl (by decide) rfl (by decide) (Nat.le_of_ble_eq_true rfl) (Nat.le_refl _) (Nat.le_refl _) (fun r w' h => by obtain ⟨-, rfl⟩ := h; exact Nat.le_of_ble_eq_true rfl) ?_
  rintro _ _ ⟨rfl, rfl⟩
  refine ev_eq (lv' := [(0, .ref 0), (1, .int (zI (z1))), (2, .int (zI (z2)))]) (st' := [.int (nI (b01 (((0 : Nat) : Int) ≤ z1 ∧ z1 ≤ ((5 : Nat) : Int))))]) (w' := modW 0 S X K) rfl rfl rfl ?_
  refine ev_ifne_b (tgt := 15) dX7_keep_6 (by decide) (fun h6 => ?_) (fun h6 => (by exfalso; omega))
  refine ev_b bX7_keep_15_16 (lv' := [(0, .ref 0), (1, .int (zI (z1))), (2, .int (zI (z2)))]) (st' := [.int (zI (z2))]) (w2 := modW 0 S X K) rfl ?_
  refine ev_if_ge_z (tgt := 26) (by constructor <;> omega) dX7_keep_16 (by decide) (fun h16 => (by exfalso; omega)) (fun h16 => ?_)
  refine ev_b bX7_keep_19_22 (lv' := [(0, .ref 0), (1, .int (zI (z1))), (2, .int (zI (z2)))]) (st' := [.int (-4), .ref 0]) (w2 := modW 0 S X K) rfl ?_
  refine ev_callM (Yc := mX7_refuses) (st := []) dX7_keep_22 tw_1012 kX7_refuses (m_X7_refuses_4 S X K) rfl rfl rfl rfl (by decide) (Nat.le_of_ble_eq_true rfl) (Nat.le_refl _) (Nat.le_refl _) (fun r w' h => by obtain ⟨-, rfl⟩ := h; exact mod_eq) ?_
  rintro _ _ ⟨rfl, rfl⟩
  refine ev_eq (lv' := [(0, .ref 0), (1, .int (zI (z1))), (2, .int (zI (z2)))]) (st' := [.int (-4)]) (w' := modW 0 S (((up X.rf 4 (X.rf 4 + 1)), X.wo, X.ta, X.ow, X.sl, X.sh, X.lt, X.ty, X.pl, X.nu, X.od, X.tt, X.oo, X.on, X.wn, X.pd, X.li, X.rr, X.rn, X.dr) : ModN) K) rfl rfl rfl ?_
  exact ev_iret dX7_keep_25 rfl mod_le (Nat.le_refl _) (Nat.le_refl _) ⟨rfl, _, rfl, hM, rfl, rfl, rfl, rfl, rfl⟩
theorem bX7_keep_26_29 {l : Launch} {E : XE} : Snd l E mX7_keep 26 29 (xs [x_iload 2, x_push (.int (nI 9))]) := Snd.cons (snd_iload_n (i := 2) dX7_keep_26 rfl) (Snd.cons (snd_bipush (v := nI 9) dX7_keep_27 (by decide)) Snd.nil)
theorem bX7_keep_32_35 {l : Launch} {E : XE} : Snd l E mX7_keep 32 35 (xs [x_aload 0, x_push (.int (-6))]) := Snd.cons (snd_aload_n (i := 0) dX7_keep_32 rfl) (Snd.cons (snd_bipush (v := -6) dX7_keep_33 (by decide)) Snd.nil)
set_option maxHeartbeats 4000000 in
set_option maxRecDepth 100000 in
theorem q_keep_6 {l : Launch} {E : XE} (S : SaleN) (X : ModN) (K : Option (Nat → Nat)) (z1 z2 : Int) (hS : SaleOK S) (hM : MOK S X) (rz1 : -2147483648 ≤ z1 ∧ z1 < 2147483648) (rz2 : -2147483648 ≤ z2 ∧ z2 < 2147483648) (h : 0 ≤ z1 ∧ z1 < 6) (h2 : 9 < z2) : MetE l E mX7_keep (1) 0 0 [.ref 0, .int (zI (z1)), .int (zI (z2))] (modW 0 S X K) (MP S K (X.lt) (X.ty) (X.rr) (X.rn) ((up X.rf 6 (X.rf 6 + 1))) (some (.int (-6)))) := by
  refine MetE.of (by decide +kernel) (Nat.le_of_ble_eq_true rfl) ?_
  have hca := hS.1
  have hpw := pow_ca hS
  have hac := ac_lt hS
  have hshl := shl_le hS
  
  refine ev_eq (lv' := [(0, .ref 0), (1, .int (zI (z1))), (2, .int (zI (z2)))]) (st' := []) (w' := modW 0 S X K) rfl rfl rfl ?_
  refine ev_b bX7_keep_0_3 (lv' := [(0, .ref 0), (1, .int (zI (z1))), (2, .int (zI (z2)))]) (st' := [.int (nI (5)), .int (nI (0)), .int (zI (z1))]) (w2 := modW 0 S X K) rfl ?_
  refine ev_callS (Yc := mX7_isIn) [] dX7_keep_3 tw_1036 kX7_isIn (m_X7_isIn_z z1 0 5 rz1 (by decide) (by decide)) rfl (st := []) rfl (by decide) rfl (by decide) (Nat.le_of_ble_eq_true rfl) (Nat.le_refl _) (Nat.le_refl _) (fun r w' h => by obtain ⟨-, rfl⟩ := h; exact Nat.le_of_ble_eq_true rfl) ?_
  rintro _ _ ⟨rfl, rfl⟩
  refine ev_eq (lv' := [(0, .ref 0), (1, .int (zI (z1))), (2, .int (zI (z2)))]) (st' := [.int (nI (b01 (((0 : Nat) : Int) ≤ z1 ∧ z1 ≤ ((5 : Nat) : Int))))]) (w' := modW 0 S X K) rfl rfl rfl ?_
  refine ev_ifne_b (tgt := 15) dX7_keep_6 (by decide) (fun h6 => ?_) (fun h6 => (by exfalso; omega))
  refine ev_b bX7_keep_15_16 (lv' := [(0, .ref 0), (1, .int (zI (z1))), (2, .int (zI (z2)))]) (st' := [.int (zI (z2))]) (w2 := modW 0 S X K) rfl ?_
  refine ev_if_ge_z (tgt := 26) (by constructor <;> omega) dX7_keep_16 (by decide) (fun h16 => ?_) (fun h16 => (by exfalso; omega))
  refine ev_b bX7_keep_26_29 (lv' := [(0, .ref 0), (1, .int (zI (z1))), (2, .int (zI (z2)))]) (st' := [.int (nI (9)), .int (zI (z2))]) (w2 := modW 0 S X K) rfl ?_
  refine ev_top (y := zI (((9 : Nat) : Int))) (zI_nat _).symm ?_
  refine ev_icmp_le_z (tgt := 39) (by constructor <;> omega) (by constructor <;> omega) dX7_keep_29 (by decide) (fun h29 => (by exfalso; omega)) (fun h29 => ?_)
  refine ev_b bX7_keep_32_35 (lv' := [(0, .ref 0), (1, .int (zI (z1))), (2, .int (zI (z2)))]) (st' := [.int (-6), .ref 0]) (w2 := modW 0 S X K) rfl ?_
  refine ev_callM (Yc := mX7_refuses) (st := []) dX7_keep_35 tw_1012 kX7_refuses (m_X7_refuses_6 S X K) rfl rfl rfl rfl (by decide) (Nat.le_of_ble_eq_true rfl) (Nat.le_refl _) (Nat.le_refl _) (fun r w' h => by obtain ⟨-, rfl⟩ := h; exact mod_eq) ?_
  rintro _ _ ⟨rfl, rfl⟩
  refine ev_eq (lv' := [(0, .ref 0), (1, .int (zI (z1))), (2, .int (zI (z2)))]) (st' := [.int (-6)]) (w' := modW 0 S (((up X.rf 6 (X.rf 6 + 1)), X.wo, X.ta, X.ow, X.sl, X.sh, X.lt, X.ty, X.pl, X.nu, X.od, X.tt, X.oo, X.on, X.wn, X.pd, X.li, X.rr, X.rn, X.dr) : ModN) K) rfl rfl rfl ?_
  exact ev_iret dX7_keep_38 rfl mod_le (Nat.le_refl _) (Nat.le_refl _) ⟨rfl, _, rfl, hM, rfl, rfl, rfl, rfl, rfl⟩
theorem bX7_keep_39_44 {l : Launch} {E : XE} : Snd l E mX7_keep 39 44 (xs [x_aload 0, x_get 8 0, x_iload 1]) := Snd.cons (snd_aload_n (i := 0) dX7_keep_39 rfl) (Snd.cons (snd_get (ci := 8) (k := 0) dX7_keep_40 rfl inX7 (by decide) tw_914) (Snd.cons (snd_iload_n (i := 1) dX7_keep_43 rfl) Snd.nil))
theorem bX7_keep_45_52 {l : Launch} {E : XE} : Snd l E mX7_keep 45 52 (xs [x_istore 3, x_aload 0, x_get 8 0, x_iload 1, x_iload 2]) := Snd.cons (snd_istore_n (i := 3) dX7_keep_45 rfl (by decide)) (Snd.cons (snd_aload_n (i := 0) dX7_keep_46 rfl) (Snd.cons (snd_get (ci := 8) (k := 0) dX7_keep_47 rfl inX7 (by decide) tw_914) (Snd.cons (snd_iload_n (i := 1) dX7_keep_50 rfl) (Snd.cons (snd_iload_n (i := 2) dX7_keep_51 rfl) Snd.nil))))
theorem bX7_keep_53_55 {l : Launch} {E : XE} : Snd l E mX7_keep 53 55 (xs [x_aload 0, x_push (.int (nI 1))]) := Snd.cons (snd_aload_n (i := 0) dX7_keep_53 rfl) (Snd.cons (snd_iconst (v := nI 1) dX7_keep_54 (by decide)) Snd.nil)
theorem bX7_keep_58_59 {l : Launch} {E : XE} : Snd l E mX7_keep 58 59 (xs [x_iload 3]) := Snd.cons (snd_iload_n (i := 3) dX7_keep_58 rfl) Snd.nil
set_option maxHeartbeats 4000000 in
set_option maxRecDepth 100000 in
theorem q_keep_ok {l : Launch} {E : XE} (S : SaleN) (X : ModN) (K : Option (Nat → Nat)) (i v : Nat) (hS : SaleOK S) (hM : MOK S X) (hi : i < 6) (hv : v ≤ 9) : MetE l E mX7_keep (1) 0 0 [.ref 0, .int (nI (i)), .int (nI (v))] (modW 0 S X K) (MP (keepS S i v) K (X.lt) (X.ty) (X.rr) (X.rn) (X.rf) (some (.int (nI (S.rs i))))) := by
  refine MetE.of (by decide +kernel) (Nat.le_of_ble_eq_true rfl) ?_
  have hca := hS.1
  have hpw := pow_ca hS
  have hac := ac_lt hS
  have hshl := shl_le hS
  
  refine ev_eq (lv' := [(0, .ref 0), (1, .int (nI (i))), (2, .int (nI (v)))]) (st' := []) (w' := modW 0 S X K) rfl rfl rfl ?_
  refine ev_b bX7_keep_0_3 (lv' := [(0, .ref 0), (1, .int (nI (i))), (2, .int (nI (v)))]) (st' := [.int (nI (5)), .int (nI (0)), .int (nI (i))]) (w2 := modW 0 S X K) rfl ?_
  refine ev_callS (Yc := mX7_isIn) [] dX7_keep_3 tw_1036 kX7_isIn (m_X7_isIn_n i 0 5 (by omega) (by decide) (by decide)) rfl (st := []) rfl (by decide) rfl (by decide) (Nat.le_of_ble_eq_true rfl) (Nat.le_refl _) (Nat.le_refl _) (fun r w' h => by obtain ⟨-, rfl⟩ := h; exact Nat.le_of_ble_eq_true rfl) ?_
  rintro _ _ ⟨rfl, rfl⟩
  refine ev_eq (lv' := [(0, .ref 0), (1, .int (nI (i))), (2, .int (nI (v)))]) (st' := [.int (nI (b01 (0 ≤ i ∧ i ≤ 5)))]) (w' := modW 0 S X K) rfl rfl rfl ?_
  refine ev_ifne_b (tgt := 15) dX7_keep_6 (by decide) (fun h6 => ?_) (fun h6 => (by exfalso; omega))
  refine ev_b bX7_keep_15_16 (lv' := [(0, .ref 0), (1, .int (nI (i))), (2, .int (nI (v)))]) (st' := [.int (nI (v))]) (w2 := modW 0 S X K) rfl ?_
  refine ev_if_ge_n (tgt := 26) (by omega) dX7_keep_16 (by decide) (fun h16 => ?_) (fun h16 => (by exfalso; omega))
  refine ev_b bX7_keep_26_29 (lv' := [(0, .ref 0), (1, .int (nI (i))), (2, .int (nI (v)))]) (st' := [.int (nI (9)), .int (nI (v))]) (w2 := modW 0 S X K) rfl ?_
  refine ev_icmp_le_n (tgt := 39) (by omega) (by decide) dX7_keep_29 (by decide) (fun h29 => ?_) (fun h29 => (by exfalso; omega))
  refine ev_b bX7_keep_39_44 (lv' := [(0, .ref 0), (1, .int (nI (i))), (2, .int (nI (v)))]) (st' := [.int (nI (i)), .ref 1]) (w2 := modW 0 S X K) rfl ?_
  refine ev_iald_n (f := S.rs) dX7_keep_44 rfl (by omega) (by decide) ?_
  refine ev_b bX7_keep_45_52 (lv' := [(3, .int (nI (S.rs i))), (0, .ref 0), (1, .int (nI (i))), (2, .int (nI (v)))]) (st' := [.int (nI (v)), .int (nI (i)), .ref 1]) (w2 := modW 0 S X K) rfl ?_
  refine ev_iast_n (f := S.rs) dX7_keep_52 rfl (by omega) (by decide) ?_
  refine ev_eq (w' := modW 0 ((S.bd, S.st, S.pr, S.ow, S.kd, S.fg, up S.rs i v, S.ca, S.ac) : SaleN) X K) rfl rfl rfl ?_
  refine ev_b bX7_keep_53_55 (lv' := [(3, .int (nI (S.rs i))), (0, .ref 0), (1, .int (nI (i))), (2, .int (nI (v)))]) (st' := [.int (nI (1)), .ref 0]) (w2 := modW 0 ((S.bd, S.st, S.pr, S.ow, S.kd, S.fg, up S.rs i v, S.ca, S.ac) : SaleN) X K) rfl ?_
  refine snd_put (ci := 8) (k := 12) (a := 0) dX7_keep_55 rfl inX7 tyX7_ok nmX7 (by decide) tw_926 rfl rfl (Nat.le_of_ble_eq_true rfl) (fun _ => rfl) (fun _ => rfl) ?_
  refine ev_eq (w' := modW 0 ((S.bd, S.st, S.pr, S.ow, S.kd, S.fg, up S.rs i v, S.ca, S.ac) : SaleN) ((X.rf, X.wo, X.ta, X.ow, 1, X.sh, X.lt, X.ty, X.pl, X.nu, X.od, X.tt, X.oo, X.on, X.wn, X.pd, X.li, X.rr, X.rn, X.dr) : ModN) K) rfl rfl rfl ?_
  refine ev_b bX7_keep_58_59 (lv' := [(3, .int (nI (S.rs i))), (0, .ref 0), (1, .int (nI (i))), (2, .int (nI (v)))]) (st' := [.int (nI (S.rs i))]) (w2 := modW 0 ((S.bd, S.st, S.pr, S.ow, S.kd, S.fg, up S.rs i v, S.ca, S.ac) : SaleN) ((X.rf, X.wo, X.ta, X.ow, 1, X.sh, X.lt, X.ty, X.pl, X.nu, X.od, X.tt, X.oo, X.on, X.wn, X.pd, X.li, X.rr, X.rn, X.dr) : ModN) K) rfl ?_
  exact ev_iret dX7_keep_59 rfl mod_le (Nat.le_refl _) (Nat.le_refl _) ⟨rfl, _, rfl, mok_stale hM.1 rfl, rfl, rfl, rfl, rfl, rfl⟩
