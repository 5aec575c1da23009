/-! ===== the reference's public methods: row, clear, judge, count, least, tight ===== -/
def XK (X1 X : ModN) : Prop := X1.lt = X.lt ∧ X1.ty = X.ty ∧ X1.rr = X.rr ∧ X1.rn = X.rn ∧ X1.rf = X.rf
theorem xk_self (X : ModN) : XK X X := ⟨rfl, rfl, rfl, rfl, rfl⟩
def MOK0 (X : ModN) : Prop := X.sh = -9 ∧ X.sl ≤ 1
theorem mok0 {S : SaleN} {X : ModN} (h : MOK S X) : MOK0 X := ⟨h.1, h.2.1⟩
theorem mok0_fresh {X : ModN} (h1 : X.sh = -9) (h2 : X.sl = 0) : MOK0 X := ⟨h1, by omega⟩
theorem up_back {f : Nat → Nat} {b v : Nat} : up (up f b v) b (f b) = f := by
  funext j
  unfold up
  by_cases h : j = b
  · subst h; rw [if_pos rfl]
  · rw [if_neg h, if_neg h]
theorem up_same {f : Nat → Nat} {b : Nat} : up f b (f b) = f := by
  funext j
  unfold up
  by_cases h : j = b
  · subst h; rw [if_pos rfl]
  · rw [if_neg h]
theorem andn_one {k W : Nat} : andn (1 <<< k) W = if W.testBit k = true then 0 else 1 <<< k := by
  apply Nat.eq_of_testBit_eq
  intro i
  have e1 : (1 <<< k).testBit i = decide (k = i) := by rw [Nat.one_shiftLeft, Nat.testBit_two_pow]
  rw [andn_bit, e1]
  by_cases e : k = i
  · subst e
    cases h : W.testBit k with
    | true => simp
    | false =>
      rw [if_neg (by decide), e1]
      simp
  · split
    · simp [e]
    · rw [e1]; simp [e]
theorem fwZ_two {tl : Nat → Nat} {f : Nat → Int} : ∀ n k, fwZ tl f n k = -9 ∨ 0 ≤ fwZ tl f n k
  | 0, k => Or.inl rfl
  | n + 1, k => by
    unfold fwZ
    split
    · exact fwZ_two n (k + 1)
    · right; omega
theorem kind_k {S : SaleN} {b k : Nat} : kindS S b k (S.fg b) = ((S.bd, S.st, S.pr, S.ow, up S.kd b k, S.fg, S.rs, S.ca, S.ac) : SaleN) := by
  unfold kindS
  rw [up_same]
theorem kind_f {S : SaleN} {b k : Nat} : kindS S b (S.kd b) k = ((S.bd, S.st, S.pr, S.ow, S.kd, up S.fg b k, S.rs, S.ca, S.ac) : SaleN) := by
  unfold kindS
  rw [up_same]
theorem bX7_row_0_1 {l : Launch} {E : XE} : Snd l E mX7_row 0 1 (xs [x_iload 1]) := Snd.cons (snd_iload_n (i := 1) dX7_row_0 rfl) Snd.nil
theorem bX7_row_4_7 {l : Launch} {E : XE} : Snd l E mX7_row 4 7 (xs [x_aload 0, x_push (.int (-4))]) := Snd.cons (snd_aload_n (i := 0) dX7_row_4 rfl) (Snd.cons (snd_bipush (v := -4) dX7_row_5 (by decide)) Snd.nil)
set_option maxHeartbeats 4000000 in
set_option maxRecDepth 100000 in
theorem q_row_4 {l : Launch} {E : XE} (S : SaleN) (X : ModN) (K : Option (Nat → Nat)) (z : Int) (hS : SaleOK S) (hM : MOK S X) (rz : -2147483648 ≤ z ∧ z < 2147483648) (h : z < 0) : MetE l E mX7_row (1) 0 0 [.ref 0, .int (zI (z))] (modW 0 S X K) (MP S K (X.lt) (X.ty) (X.rr) (X.rn) ((up X.rf 4 (X.rf 4 + 1))) (some (.int (-4)))) := by
  refine MetE.of (by decide +kernel) (Nat.le_of_ble_eq_true rfl) ?_
  have hca := hS.1
  have hpw := pow_ca hS
  have hac := ac_lt hS
  have hshl := shl_le hS
  
  refine ev_eq (lv' := [(0, .ref 0), (1, .int (zI (z)))]) (st' := []) (w' := modW 0 S X K) rfl rfl rfl ?_
  refine ev_b bX7_row_0_1 (lv' := [(0, .ref 0), (1, .int (zI (z)))]) (st' := [.int (zI (z))]) (w2 := modW 0 S X K) rfl ?_
  refine ev_if_ge_z (tgt := 11) (by constructor <;> omega) dX7_row_1 (by decide) (fun h1 => (by exfalso; omega)) (fun h1 => ?_)
  refine ev_b bX7_row_4_7 (lv' := [(0, .ref 0), (1, .int (zI (z)))]) (st' := [.int (-4), .ref 0]) (w2 := modW 0 S X K) rfl ?_
  refine ev_callM (Yc := mX7_refuses) (st := []) dX7_row_7 tw_1012 kX7_refuses (m_X7_refuses_4 S X K) rfl rfl rfl rfl (by decide) (Nat.le_of_ble_eq_true rfl) (Nat.le_refl _) (Nat.le_refl _) (fun r w' h => by obtain ⟨-, rfl⟩ := h; exact mod_eq) ?_
  rintro _ _ ⟨rfl, rfl⟩
  refine ev_eq (lv' := [(0, .ref 0), (1, .int (zI (z)))]) (st' := [.int (-4)]) (w' := modW 0 S (((up X.rf 4 (X.rf 4 + 1)), X.wo, X.ta, X.ow, X.sl, X.sh, X.lt, X.ty, X.pl, X.nu, X.od, X.tt, X.oo, X.on, X.wn, X.pd, X.li, X.rr, X.rn, X.dr) : ModN) K) rfl rfl rfl ?_
  exact ev_iret dX7_row_10 rfl mod_le (Nat.le_refl _) (Nat.le_refl _) ⟨rfl, _, rfl, hM, rfl, rfl, rfl, rfl, rfl⟩
theorem bX7_row_11_14 {l : Launch} {E : XE} : Snd l E mX7_row 11 14 (xs [x_iload 1, x_push (.int (nI 99))]) := Snd.cons (snd_iload_n (i := 1) dX7_row_11 rfl) (Snd.cons (snd_bipush (v := nI 99) dX7_row_12 (by decide)) Snd.nil)
theorem bX7_row_25_28 {l : Launch} {E : XE} : Snd l E mX7_row 25 28 (xs [x_aload 0, x_push (.int (-6))]) := Snd.cons (snd_aload_n (i := 0) dX7_row_25 rfl) (Snd.cons (snd_bipush (v := -6) dX7_row_26 (by decide)) Snd.nil)
set_option maxHeartbeats 4000000 in
set_option maxRecDepth 100000 in
theorem q_row_6a {l : Launch} {E : XE} (S : SaleN) (X : ModN) (K : Option (Nat → Nat)) (z : Int) (hS : SaleOK S) (hM : MOK S X) (rz : -2147483648 ≤ z ∧ z < 2147483648) (h : 99 < z) : MetE l E mX7_row (1) 0 0 [.ref 0, .int (zI (z))] (modW 0 S X K) (MP S K (X.lt) (X.ty) (X.rr) (X.rn) ((up X.rf 6 (X.rf 6 + 1))) (some (.int (-6)))) := by
  refine MetE.of (by decide +kernel) (Nat.le_of_ble_eq_true rfl) ?_
  have hca := hS.1
  have hpw := pow_ca hS
  have hac := ac_lt hS
  have hshl := shl_le hS
  
  refine ev_eq (lv' := [(0, .ref 0), (1, .int (zI (z)))]) (st' := []) (w' := modW 0 S X K) rfl rfl rfl ?_
  refine ev_b bX7_row_0_1 (lv' := [(0, .ref 0), (1, .int (zI (z)))]) (st' := [.int (zI (z))]) (w2 := modW 0 S X K) rfl ?_
  refine ev_if_ge_z (tgt := 11) (by constructor <;> omega) dX7_row_1 (by decide) (fun h1 => ?_) (fun h1 => (by exfalso; omega))
  refine ev_b bX7_row_11_14 (lv' := [(0, .ref 0), (1, .int (zI (z)))]) (st' := [.int (nI (99)), .int (zI (z))]) (w2 := modW 0 S X K) rfl ?_
  refine ev_top (y := zI (((99 : Nat) : Int))) (zI_nat _).symm ?_
  refine ev_icmp_gt_z (tgt := 25) (by constructor <;> omega) (by constructor <;> omega) dX7_row_14 (by decide) (fun h14 => ?_) (fun h14 => (by exfalso; omega))
  refine ev_b bX7_row_25_28 (lv' := [(0, .ref 0), (1, .int (zI (z)))]) (st' := [.int (-6), .ref 0]) (w2 := modW 0 S X K) rfl ?_
  refine ev_callM (Yc := mX7_refuses) (st := []) dX7_row_28 tw_1012 kX7_refuses (m_X7_refuses_6 S X K) rfl rfl rfl rfl (by decide) (Nat.le_of_ble_eq_true rfl) (Nat.le_refl _) (Nat.le_refl _) (fun r w' h => by obtain ⟨-, rfl⟩ := h; exact mod_eq) ?_
  rintro _ _ ⟨rfl, rfl⟩
  refine ev_eq (lv' := [(0, .ref 0), (1, .int (zI (z)))]) (st' := [.int (-6)]) (w' := modW 0 S (((up X.rf 6 (X.rf 6 + 1)), X.wo, X.ta, X.ow, X.sl, X.sh, X.lt, X.ty, X.pl, X.nu, X.od, X.tt, X.oo, X.on, X.wn, X.pd, X.li, X.rr, X.rn, X.dr) : ModN) K) rfl rfl rfl ?_
  exact ev_iret dX7_row_31 rfl mod_le (Nat.le_refl _) (Nat.le_refl _) ⟨rfl, _, rfl, hM, rfl, rfl, rfl, rfl, rfl⟩
theorem bX7_row_17_22 {l : Launch} {E : XE} : Snd l E mX7_row 17 22 (xs [x_aload 0, x_get 8 28, x_push (.int (nI 5))]) := Snd.cons (snd_aload_n (i := 0) dX7_row_17 rfl) (Snd.cons (snd_get (ci := 8) (k := 28) dX7_row_18 rfl inX7 (by decide) tw_942) (Snd.cons (snd_iconst (v := nI 5) dX7_row_21 (by decide)) Snd.nil))
set_option maxHeartbeats 4000000 in
set_option maxRecDepth 100000 in
theorem q_row_6b {l : Launch} {E : XE} (S : SaleN) (X : ModN) (K : Option (Nat → Nat)) (v : Nat) (hS : SaleOK S) (hM : MOK S X) (hv : v ≤ 99) (ht : X.rn = 5) : MetE l E mX7_row (1) 0 0 [.ref 0, .int (nI (v))] (modW 0 S X K) (MP S K (X.lt) (X.ty) (X.rr) (X.rn) ((up X.rf 6 (X.rf 6 + 1))) (some (.int (-6)))) := by
  refine MetE.of (by decide +kernel) (Nat.le_of_ble_eq_true rfl) ?_
  have hca := hS.1
  have hpw := pow_ca hS
  have hac := ac_lt hS
  have hshl := shl_le hS
  
  refine ev_eq (lv' := [(0, .ref 0), (1, .int (nI (v)))]) (st' := []) (w' := modW 0 S X K) rfl rfl rfl ?_
  refine ev_b bX7_row_0_1 (lv' := [(0, .ref 0), (1, .int (nI (v)))]) (st' := [.int (nI (v))]) (w2 := modW 0 S X K) rfl ?_
  refine ev_if_ge_n (tgt := 11) (by omega) dX7_row_1 (by decide) (fun h1 => ?_) (fun h1 => (by exfalso; omega))
  refine ev_b bX7_row_11_14 (lv' := [(0, .ref 0), (1, .int (nI (v)))]) (st' := [.int (nI (99)), .int (nI (v))]) (w2 := modW 0 S X K) rfl ?_
  refine ev_icmp_gt_n (tgt := 25) (by omega) (by decide) dX7_row_14 (by decide) (fun h14 => (by exfalso; omega)) (fun h14 => ?_)
  refine ev_b bX7_row_17_22 (lv' := [(0, .ref 0), (1, .int (nI (v)))]) (st' := [.int (nI (5)), .int (nI (X.rn))]) (w2 := modW 0 S X K) rfl ?_
  refine ev_icmp_ne_n (tgt := 32) (by omega) (by decide) dX7_row_22 (by decide) (fun h22 => (by exfalso; omega)) (fun h22 => ?_)
  refine ev_b bX7_row_25_28 (lv' := [(0, .ref 0), (1, .int (nI (v)))]) (st' := [.int (-6), .ref 0]) (w2 := modW 0 S X K) rfl ?_
  refine ev_callM (Yc := mX7_refuses) (st := []) dX7_row_28 tw_1012 kX7_refuses (m_X7_refuses_6 S X K) rfl rfl rfl rfl (by decide) (Nat.le_of_ble_eq_true rfl) (Nat.le_refl _) (Nat.le_refl _) (fun r w' h => by obtain ⟨-, rfl⟩ := h; exact mod_eq) ?_
  rintro _ _ ⟨rfl, rfl⟩
  refine ev_eq (lv' := [(0, .ref 0), (1, .int (nI (v)))]) (st' := [.int (-6)]) (w' := modW 0 S (((up X.rf 6 (X.rf 6 + 1)), X.wo, X.ta, X.ow, X.sl, X.sh, X.lt, X.ty, X.pl, X.nu, X.od, X.tt, X.oo, X.on, X.wn, X.pd, X.li, X.rr, X.rn, X.dr) : ModN) K) rfl rfl rfl ?_
  exact ev_iret dX7_row_31 rfl mod_le (Nat.le_refl _) (Nat.le_refl _) ⟨rfl, _, rfl, hM, rfl, rfl, rfl, rfl, rfl⟩
theorem bX7_row_32_41 {l : Launch} {E : XE} : Snd l E mX7_row 32 41 (xs [x_aload 0, x_get 8 27, x_aload 0, x_get 8 28, x_iload 1]) := Snd.cons (snd_aload_n (i := 0) dX7_row_32 rfl) (Snd.cons (snd_get (ci := 8) (k := 27) dX7_row_33 rfl inX7 (by decide) tw_941) (Snd.cons (snd_aload_n (i := 0) dX7_row_36 rfl) (Snd.cons (snd_get (ci := 8) (k := 28) dX7_row_37 rfl inX7 (by decide) tw_942) (Snd.cons (snd_iload_n (i := 1) dX7_row_40 rfl) Snd.nil))))
theorem bX7_row_42_48 {l : Launch} {E : XE} : Snd l E mX7_row 42 48 (xs [x_aload 0, x_dup, x_get 8 28, x_push (.int (nI 1))]) := Snd.cons (snd_aload_n (i := 0) dX7_row_42 rfl) (Snd.cons (snd_dup dX7_row_43) (Snd.cons (snd_get (ci := 8) (k := 28) dX7_row_44 rfl inX7 (by decide) tw_942) (Snd.cons (snd_iconst (v := nI 1) dX7_row_47 (by decide)) Snd.nil)))
theorem bX7_row_49_56 {l : Launch} {E : XE} : Snd l E mX7_row 49 56 (xs [x_puti 8 28, x_aload 0, x_get 8 28]) := Snd.cons (snd_puti (ci := 8) (k := 28) dX7_row_49 rfl inX7 tyX7_ok nmX7 (by decide) tw_942 rfl rfl) (Snd.cons (snd_aload_n (i := 0) dX7_row_52 rfl) (Snd.cons (snd_get (ci := 8) (k := 28) dX7_row_53 rfl inX7 (by decide) tw_942) Snd.nil))
set_option maxHeartbeats 4000000 in
set_option maxRecDepth 100000 in
theorem q_row_ok {l : Launch} {E : XE} (S : SaleN) (X : ModN) (K : Option (Nat → Nat)) (v : Nat) (hS : SaleOK S) (hM : MOK S X) (hv : v ≤ 99) (ht : X.rn < 5) : MetE l E mX7_row (0) 0 0 [.ref 0, .int (nI (v))] (modW 0 S X K) (MP S K (X.lt) (X.ty) (up X.rr X.rn v) (X.rn + 1) (X.rf) (some (.int (nI (X.rn + 1))))) := by
  refine MetE.of (by decide +kernel) (Nat.le_of_ble_eq_true rfl) ?_
  have hca := hS.1
  have hpw := pow_ca hS
  have hac := ac_lt hS
  have hshl := shl_le hS
  
  refine ev_eq (lv' := [(0, .ref 0), (1, .int (nI (v)))]) (st' := []) (w' := modW 0 S X K) rfl rfl rfl ?_
  refine ev_b bX7_row_0_1 (lv' := [(0, .ref 0), (1, .int (nI (v)))]) (st' := [.int (nI (v))]) (w2 := modW 0 S X K) rfl ?_
  refine ev_if_ge_n (tgt := 11) (by omega) dX7_row_1 (by decide) (fun h1 => ?_) (fun h1 => (by exfalso; omega))
  refine ev_b bX7_row_11_14 (lv' := [(0, .ref 0), (1, .int (nI (v)))]) (st' := [.int (nI (99)), .int (nI (v))]) (w2 := modW 0 S X K) rfl ?_
  refine ev_icmp_gt_n (tgt := 25) (by omega) (by decide) dX7_row_14 (by decide) (fun h14 => (by exfalso; omega)) (fun h14 => ?_)
  refine ev_b bX7_row_17_22 (lv' := [(0, .ref 0), (1, .int (nI (v)))]) (st' := [.int (nI (5)), .int (nI (X.rn))]) (w2 := modW 0 S X K) rfl ?_
  refine ev_icmp_ne_n (tgt := 32) (by omega) (by decide) dX7_row_22 (by decide) (fun h22 => ?_) (fun h22 => (by exfalso; omega))
  refine ev_b bX7_row_32_41 (lv' := [(0, .ref 0), (1, .int (nI (v)))]) (st' := [.int (nI (v)), .int (nI (X.rn)), .ref 18]) (w2 := modW 0 S X K) rfl ?_
  refine ev_iast_n (f := X.rr) dX7_row_41 rfl (by omega) (by decide) ?_
  refine ev_eq (w' := modW 0 S ((X.rf, X.wo, X.ta, X.ow, X.sl, X.sh, X.lt, X.ty, X.pl, X.nu, X.od, X.tt, X.oo, X.on, X.wn, X.pd, X.li, up X.rr X.rn v, X.rn, X.dr) : ModN) K) rfl rfl rfl ?_
  refine ev_b bX7_row_42_48 (lv' := [(0, .ref 0), (1, .int (nI (v)))]) (st' := [.int (nI (1)), .int (nI (X.rn)), .ref 0]) (w2 := modW 0 S ((X.rf, X.wo, X.ta, X.ow, X.sl, X.sh, X.lt, X.ty, X.pl, X.nu, X.od, X.tt, X.oo, X.on, X.wn, X.pd, X.li, up X.rr X.rn v, X.rn, X.dr) : ModN) K) rfl ?_
  refine ev_iadd_n dX7_row_48 ?_
  refine ev_b bX7_row_49_56 (lv' := [(0, .ref 0), (1, .int (nI (v)))]) (st' := [.int (nI (X.rn + 1))]) (w2 := modW 0 S ((X.rf, X.wo, X.ta, X.ow, X.sl, X.sh, X.lt, X.ty, X.pl, X.nu, X.od, X.tt, X.oo, X.on, X.wn, X.pd, X.li, up X.rr X.rn v, X.rn + 1, X.dr) : ModN) K) rfl ?_
  exact ev_iret dX7_row_56 rfl mod_le (Nat.le_refl _) (Nat.le_refl _) ⟨rfl, _, rfl, hM, rfl, rfl, rfl, rfl, rfl⟩
theorem bX7_clear_0_11 {l : Launch} {E : XE} : Snd l E mX7_clear 0 11 (xs [x_aload 0, x_get 8 28, x_istore 1, x_aload 0, x_push (.int (nI 0)), x_puti 8 28, x_iload 1]) := Snd.cons (snd_aload_n (i := 0) dX7_clear_0 rfl) (Snd.cons (snd_get (ci := 8) (k := 28) dX7_clear_1 rfl inX7 (by decide) tw_942) (Snd.cons (snd_istore_n (i := 1) dX7_clear_4 rfl (by decide)) (Snd.cons (snd_aload_n (i := 0) dX7_clear_5 rfl) (Snd.cons (snd_iconst (v := nI 0) dX7_clear_6 (by decide)) (Snd.cons (snd_puti (ci := 8) (k := 28) dX7_clear_7 rfl inX7 tyX7_ok nmX7 (by decide) tw_942 rfl rfl) (Snd.cons (snd_iload_n (i := 1) dX7_clear_10 rfl) Snd.nil))))))
set_option maxHeartbeats 4000000 in
set_option maxRecDepth 100000 in
theorem q_clear_ok {l : Launch} {E : XE} (S : SaleN) (X : ModN) (K : Option (Nat → Nat))  (hS : SaleOK S) (hM : MOK S X) (ht : X.rn ≤ 5) : MetE l E mX7_clear (0) 0 0 [.ref 0] (modW 0 S X K) (MP S K (X.lt) (X.ty) (X.rr) (0) (X.rf) (some (.int (nI (X.rn))))) := by
  refine MetE.of (by decide +kernel) (Nat.le_of_ble_eq_true rfl) ?_
  have hca := hS.1
  have hpw := pow_ca hS
  have hac := ac_lt hS
  have hshl := shl_le hS
  
  refine ev_eq (lv' := [(0, .ref 0)]) (st' := []) (w' := modW 0 S X K) rfl rfl rfl ?_
  refine ev_b bX7_clear_0_11 (lv' := [(1, .int (nI (X.rn))), (0, .ref 0)]) (st' := [.int (nI (X.rn))]) (w2 := modW 0 S ((X.rf, X.wo, X.ta, X.ow, X.sl, X.sh, X.lt, X.ty, X.pl, X.nu, X.od, X.tt, X.oo, X.on, X.wn, X.pd, X.li, X.rr, 0, X.dr) : ModN) K) rfl ?_
  exact ev_iret dX7_clear_11 rfl mod_le (Nat.le_refl _) (Nat.le_refl _) ⟨rfl, _, rfl, hM, rfl, rfl, rfl, rfl, rfl⟩
