theorem kind_kind {S : SaleN} {b k f : Nat} (q g : Nat) : kindS (kindS S b k f) b q g = kindS S b q g := by
  unfold kindS
  show (S.bd, S.st, S.pr, S.ow, up (up S.kd b k) b q, up (up S.fg b f) b g, S.rs, S.ca, S.ac) = _
  rw [up_up, up_up]
/-- the KINDS, the FIGURES by which all of the ROW is so -/
def kiTo (S : SaleN) (b : Nat) (tl : Nat → Nat) (tc : Nat) : Nat → Nat
  | 0 => 0
  | k + 1 => if fwZ tl (paidZ (kindS S b k (S.fg b))) tc 0 = -9 then kiTo S b tl tc k ||| 1 <<< k else kiTo S b tl tc k
theorem kiTo_s {S : SaleN} {b : Nat} {tl : Nat → Nat} {tc k : Nat} : kiTo S b tl tc (k + 1) = if fwZ tl (paidZ (kindS S b k (S.fg b))) tc 0 = -9 then kiTo S b tl tc k ||| 1 <<< k else kiTo S b tl tc k := rfl
def fiTo (S : SaleN) (b : Nat) (tl : Nat → Nat) (tc : Nat) : Nat → Nat
  | 0 => 0
  | k + 1 => if fwZ tl (paidZ (kindS S b (S.kd b) k)) tc 0 = -9 then fiTo S b tl tc k ||| 1 <<< k else fiTo S b tl tc k
theorem fiTo_s {S : SaleN} {b : Nat} {tl : Nat → Nat} {tc k : Nat} : fiTo S b tl tc (k + 1) = if fwZ tl (paidZ (kindS S b (S.kd b) k)) tc 0 = -9 then fiTo S b tl tc k ||| 1 <<< k else fiTo S b tl tc k := rfl
theorem fwZ_bnd {tl : Nat → Nat} {f : Nat → Int} : ∀ n k : Nat, -9 ≤ fwZ tl f n k ∧ fwZ tl f n k < ((n + k : Nat) : Int) + 1
  | 0, k => by show (-9 : Int) ≤ -9 ∧ (-9 : Int) < _; omega
  | n + 1, k => by
    have h := fwZ_bnd (tl := tl) (f := f) n (k + 1)
    unfold fwZ
    split
    · omega
    · omega

theorem bX6_whatIs_0_1 {l : Launch} {E : XE} : Snd l E mX6_whatIs 0 1 (xs [x_iload 1]) := Snd.cons (snd_iload_n (i := 1) dX6_whatIs_0 rfl) Snd.nil
theorem bX6_whatIs_7_9 {l : Launch} {E : XE} : Snd l E mX6_whatIs 7 9 (xs [x_aload 0, x_push (.int (-1))]) := Snd.cons (snd_aload_n (i := 0) dX6_whatIs_7 rfl) (Snd.cons (snd_iconst (v := -1) dX6_whatIs_8 (by decide)) Snd.nil)
set_option maxHeartbeats 4000000 in
set_option maxRecDepth 100000 in
theorem p_whatIs_1 {l : Launch} {E : XE} (T : TopN) (S P U : SaleN) (O : OutN) (B : BillN) (Q : SeaN) (C : ScrN) (R : PrtN) (tl rf : Nat → Nat) (z1 z2 : Int) (hS : SaleOK S) (hQ : Q.fd < 2147483648) (rz1 : -2147483648 ≤ z1 ∧ z1 < 2147483648) (rz2 : -2147483648 ≤ z2 ∧ z2 < 2147483648) (h : ¬ (0 ≤ z1 ∧ z1 < 5)) : MetE l E mX6_whatIs (1) 0 0 [.ref 0, .int (zI (z1)), .int (zI (z2))] (compW T S P U O B Q C R tl rf) (CP T S P (C.lt) (C.sz) tl (up rf 1 (rf 1 + 1)) (some (.int (-1)))) := by
  refine MetE.of (by decide +kernel) (Nat.le_of_ble_eq_true rfl) ?_
  have hca := hS.1
  have hpw := pow_ca hS
  have hac := ac_lt hS
  
  refine ev_eq (lv' := [(0, .ref 0), (1, .int (zI (z1))), (2, .int (zI (z2)))]) (st' := []) (w' := compW T S P U O B Q C R tl rf) rfl rfl rfl ?_
  refine ev_b bX6_whatIs_0_1 (lv' := [(0, .ref 0), (1, .int (zI (z1))), (2, .int (zI (z2)))]) (st' := [.int (zI (z1))]) (w2 := compW T S P U O B Q C R tl rf) rfl ?_
  refine ev_callS (Yc := mX6_isBidder) [] dX6_whatIs_1 tw_437 kX6_isBidder (m_X6_isBidder_z z1 rz1) rfl (st := []) rfl (by decide) rfl (by decide) (Nat.le_of_ble_eq_true rfl) (Nat.le_refl _) (Nat.le_refl _) (fun r w' h => by obtain ⟨-, rfl⟩ := h; exact Nat.le_of_ble_eq_true rfl) ?_
  rintro _ _ ⟨rfl, rfl⟩
  refine ev_eq (lv' := [(0, .ref 0), (1, .int (zI (z1))), (2, .int (zI (z2)))]) (st' := [.int (nI (b01 (0 ≤ z1 ∧ z1 < 5)))]) (w' := compW T S P U O B Q C R tl rf) rfl rfl rfl ?_
  refine ev_ifne_b (tgt := 13) dX6_whatIs_4 (by decide) (fun h4 => (by exfalso; omega)) (fun h4 => ?_)
  refine ev_b bX6_whatIs_7_9 (lv' := [(0, .ref 0), (1, .int (zI (z1))), (2, .int (zI (z2)))]) (st' := [.int (-1), .ref 0]) (w2 := compW T S P U O B Q C R tl rf) rfl ?_
  refine ev_callV (Yc := mX6_refuse) (rng 0 49) dX6_whatIs_9 tw_248 kX6_refuse (m_X6_refuse_1 T S P U O B Q C R tl rf) rfl (st := []) rfl rfl rfl (by decide) comp_hw (by decide) (Nat.le_of_ble_eq_true rfl) (Nat.le_refl _) (Nat.le_refl _) (fun r w' h => by obtain ⟨-, rfl⟩ := h; exact Nat.le_of_ble_eq_true rfl) ?_
  rintro _ _ ⟨rfl, rfl⟩
  refine ev_eq (lv' := [(0, .ref 0), (1, .int (zI (z1))), (2, .int (zI (z2)))]) (st' := [.int (-1)]) (w' := compW T S P U O B Q C R tl ((up rf 1 (rf 1 + 1)))) rfl rfl comp_xp ?_
  exact ev_iret dX6_whatIs_12 rfl (Nat.le_refl 49) (Nat.le_refl _) (Nat.le_refl _) ⟨rfl, _, _, _, _, _, _, rfl, hQ, rfl, rfl⟩
theorem bX6_whatIs_13_14 {l : Launch} {E : XE} : Snd l E mX6_whatIs 13 14 (xs [x_iload 2]) := Snd.cons (snd_iload_n (i := 2) dX6_whatIs_13 rfl) Snd.nil
theorem bX6_whatIs_20_23 {l : Launch} {E : XE} : Snd l E mX6_whatIs 20 23 (xs [x_aload 0, x_push (.int (-2))]) := Snd.cons (snd_aload_n (i := 0) dX6_whatIs_20 rfl) (Snd.cons (snd_bipush (v := -2) dX6_whatIs_21 (by decide)) Snd.nil)
set_option maxHeartbeats 4000000 in
set_option maxRecDepth 100000 in
theorem p_whatIs_2 {l : Launch} {E : XE} (T : TopN) (S P U : SaleN) (O : OutN) (B : BillN) (Q : SeaN) (C : ScrN) (R : PrtN) (tl rf : Nat → Nat) (b : Nat) (z2 : Int) (hS : SaleOK S) (hQ : Q.fd < 2147483648) (rz2 : -2147483648 ≤ z2 ∧ z2 < 2147483648) (hb : b < 5) (h : ¬ (z2 = 0 ∨ z2 = 1)) : MetE l E mX6_whatIs (1) 0 0 [.ref 0, .int (nI (b)), .int (zI (z2))] (compW T S P U O B Q C R tl rf) (CP T S P (C.lt) (C.sz) tl (up rf 2 (rf 2 + 1)) (some (.int (-2)))) := by
  refine MetE.of (by decide +kernel) (Nat.le_of_ble_eq_true rfl) ?_
  have hca := hS.1
  have hpw := pow_ca hS
  have hac := ac_lt hS
  
  refine ev_eq (lv' := [(0, .ref 0), (1, .int (nI (b))), (2, .int (zI (z2)))]) (st' := []) (w' := compW T S P U O B Q C R tl rf) rfl rfl rfl ?_
  refine ev_b bX6_whatIs_0_1 (lv' := [(0, .ref 0), (1, .int (nI (b))), (2, .int (zI (z2)))]) (st' := [.int (nI (b))]) (w2 := compW T S P U O B Q C R tl rf) rfl ?_
  refine ev_callS (Yc := mX6_isBidder) [] dX6_whatIs_1 tw_437 kX6_isBidder (m_X6_isBidder b (by omega)) rfl (st := []) rfl (by decide) rfl (by decide) (Nat.le_of_ble_eq_true rfl) (Nat.le_refl _) (Nat.le_refl _) (fun r w' h => by obtain ⟨-, rfl⟩ := h; exact Nat.le_of_ble_eq_true rfl) ?_
  rintro _ _ ⟨rfl, rfl⟩
  refine ev_eq (lv' := [(0, .ref 0), (1, .int (nI (b))), (2, .int (zI (z2)))]) (st' := [.int (nI (b01 (b < 5)))]) (w' := compW T S P U O B Q C R tl rf) rfl rfl rfl ?_
  refine ev_ifne_b (tgt := 13) dX6_whatIs_4 (by decide) (fun h4 => ?_) (fun h4 => (by exfalso; omega))
  refine ev_b bX6_whatIs_13_14 (lv' := [(0, .ref 0), (1, .int (nI (b))), (2, .int (zI (z2)))]) (st' := [.int (zI (z2))]) (w2 := compW T S P U O B Q C R tl rf) rfl ?_
  refine ev_callS (Yc := mX6_isEither) [] dX6_whatIs_14 tw_667 kX6_isEither (m_X6_isEither_z z2 rz2) rfl (st := []) rfl (by decide) rfl (by decide) (Nat.le_of_ble_eq_true rfl) (Nat.le_refl _) (Nat.le_refl _) (fun r w' h => by obtain ⟨-, rfl⟩ := h; exact Nat.le_of_ble_eq_true rfl) ?_
  rintro _ _ ⟨rfl, rfl⟩
  refine ev_eq (lv' := [(0, .ref 0), (1, .int (nI (b))), (2, .int (zI (z2)))]) (st' := [.int (nI (b01 (z2 = 0 ∨ z2 = 1)))]) (w' := compW T S P U O B Q C R tl rf) rfl rfl rfl ?_
  refine ev_ifne_b (tgt := 27) dX6_whatIs_17 (by decide) (fun h17 => (by exfalso; omega)) (fun h17 => ?_)
  refine ev_b bX6_whatIs_20_23 (lv' := [(0, .ref 0), (1, .int (nI (b))), (2, .int (zI (z2)))]) (st' := [.int (-2), .ref 0]) (w2 := compW T S P U O B Q C R tl rf) rfl ?_
  refine ev_callV (Yc := mX6_refuse) (rng 0 49) dX6_whatIs_23 tw_248 kX6_refuse (m_X6_refuse_2 T S P U O B Q C R tl rf) rfl (st := []) rfl rfl rfl (by decide) comp_hw (by decide) (Nat.le_of_ble_eq_true rfl) (Nat.le_refl _) (Nat.le_refl _) (fun r w' h => by obtain ⟨-, rfl⟩ := h; exact Nat.le_of_ble_eq_true rfl) ?_
  rintro _ _ ⟨rfl, rfl⟩
  refine ev_eq (lv' := [(0, .ref 0), (1, .int (nI (b))), (2, .int (zI (z2)))]) (st' := [.int (-2)]) (w' := compW T S P U O B Q C R tl ((up rf 2 (rf 2 + 1)))) rfl rfl comp_xp ?_
  exact ev_iret dX6_whatIs_26 rfl (Nat.le_refl 49) (Nat.le_refl _) (Nat.le_refl _) ⟨rfl, _, _, _, _, _, _, rfl, hQ, rfl, rfl⟩
theorem bX6_whatIs_27_35 {l : Launch} {E : XE} : Snd l E mX6_whatIs 27 35 (xs [x_aload 0, x_get 7 2, x_aload 0, x_get 7 0]) := Snd.cons (snd_aload_n (i := 0) dX6_whatIs_27 rfl) (Snd.cons (snd_get (ci := 7) (k := 2) dX6_whatIs_28 rfl inX6 (by decide) tw_209) (Snd.cons (snd_aload_n (i := 0) dX6_whatIs_31 rfl) (Snd.cons (snd_get (ci := 7) (k := 0) dX6_whatIs_32 rfl inX6 (by decide) tw_207) Snd.nil)))
theorem bX6_whatIs_38_39 {l : Launch} {E : XE} : Snd l E mX6_whatIs 38 39 (xs [x_iload 2]) := Snd.cons (snd_iload_n (i := 2) dX6_whatIs_38 rfl) Snd.nil
theorem bX6_whatIs_42_56 {l : Launch} {E : XE} : Snd l E mX6_whatIs 42 56 (xs [x_push (.int (nI 6)), x_id, x_istore 3, x_push (.int (nI 0)), x_istore 4, x_push (.int (nI 0)), x_istore 5]) := Snd.cons (snd_bipush (v := nI 6) dX6_whatIs_42 (by decide)) (Snd.cons (snd_goto (tgt := 49) dX6_whatIs_44 (by decide)) (Snd.cons (snd_istore_n (i := 3) dX6_whatIs_49 rfl (by decide)) (Snd.cons (snd_iconst (v := nI 0) dX6_whatIs_50 (by decide)) (Snd.cons (snd_istore dX6_whatIs_51 (by decide)) (Snd.cons (snd_iconst (v := nI 0) dX6_whatIs_53 (by decide)) (Snd.cons (snd_istore dX6_whatIs_54 (by decide)) Snd.nil))))))
theorem bX6_whatIs_56_59 {l : Launch} {E : XE} : Snd l E mX6_whatIs 56 59 (xs [x_iload 5, x_iload 3]) := Snd.cons (snd_iload dX6_whatIs_56) (Snd.cons (snd_iload_n (i := 3) dX6_whatIs_58 rfl) Snd.nil)
theorem bX6_whatIs_145_147 {l : Launch} {E : XE} : Snd l E mX6_whatIs 145 147 (xs [x_iload 4]) := Snd.cons (snd_iload dX6_whatIs_145) Snd.nil
theorem bX6_whatIs_62_63 {l : Launch} {E : XE} : Snd l E mX6_whatIs 62 63 (xs [x_iload 2]) := Snd.cons (snd_iload_n (i := 2) dX6_whatIs_62 rfl) Snd.nil
theorem bX6_whatIs_66_82 {l : Launch} {E : XE} : Snd l E mX6_whatIs 66 82 (xs [x_iload 5, x_id, x_istore 6, x_iload 2]) := Snd.cons (snd_iload dX6_whatIs_66) (Snd.cons (snd_goto (tgt := 79) dX6_whatIs_68 (by decide)) (Snd.cons (snd_istore dX6_whatIs_79 (by decide)) (Snd.cons (snd_iload_n (i := 2) dX6_whatIs_81 rfl) Snd.nil)))
theorem bX6_whatIs_85_90 {l : Launch} {E : XE} : Snd l E mX6_whatIs 85 90 (xs [x_aload 0, x_get 7 0, x_iload 1]) := Snd.cons (snd_aload_n (i := 0) dX6_whatIs_85 rfl) (Snd.cons (snd_get (ci := 7) (k := 0) dX6_whatIs_86 rfl inX6 (by decide) tw_207) (Snd.cons (snd_iload_n (i := 1) dX6_whatIs_89 rfl) Snd.nil))
theorem bX6_whatIs_93_109 {l : Launch} {E : XE} : Snd l E mX6_whatIs 93 109 (xs [x_id, x_istore 7, x_aload 0, x_get 7 2, x_iload 1, x_iload 6, x_iload 7]) := Snd.cons (snd_goto (tgt := 98) dX6_whatIs_93 (by decide)) (Snd.cons (snd_istore dX6_whatIs_98 (by decide)) (Snd.cons (snd_aload_n (i := 0) dX6_whatIs_100 rfl) (Snd.cons (snd_get (ci := 7) (k := 2) dX6_whatIs_101 rfl inX6 (by decide) tw_209) (Snd.cons (snd_iload_n (i := 1) dX6_whatIs_104 rfl) (Snd.cons (snd_iload dX6_whatIs_105) (Snd.cons (snd_iload dX6_whatIs_107) Snd.nil))))))
theorem bX6_whatIs_112_117 {l : Launch} {E : XE} : Snd l E mX6_whatIs 112 117 (xs [x_aload 0, x_aload 0, x_get 7 2]) := Snd.cons (snd_aload_n (i := 0) dX6_whatIs_112 rfl) (Snd.cons (snd_aload_n (i := 0) dX6_whatIs_113 rfl) (Snd.cons (snd_get (ci := 7) (k := 2) dX6_whatIs_114 rfl inX6 (by decide) tw_209) Snd.nil))
theorem bX6_whatIs_120_122 {l : Launch} {E : XE} : Snd l E mX6_whatIs 120 122 (xs [x_aload 0, x_push (.int (nI 1))]) := Snd.cons (snd_aload_n (i := 0) dX6_whatIs_120 rfl) (Snd.cons (snd_iconst (v := nI 1) dX6_whatIs_121 (by decide)) Snd.nil)
theorem bX6_whatIs_125_127 {l : Launch} {E : XE} : Snd l E mX6_whatIs 125 127 (xs [x_push (.int (-9))]) := Snd.cons (snd_bipush (v := -9) dX6_whatIs_125 (by decide)) Snd.nil
theorem bX6_whatIs_142_56 {l : Launch} {E : XE} : Snd l E mX6_whatIs 142 56 (xs [x_id]) := Snd.cons (snd_goto (tgt := 56) dX6_whatIs_142 (by decide)) Snd.nil
theorem bX6_whatIs_130_135 {l : Launch} {E : XE} : Snd l E mX6_whatIs 130 135 (xs [x_iload 4, x_push (.int (nI 1)), x_iload 5]) := Snd.cons (snd_iload dX6_whatIs_130) (Snd.cons (snd_iconst (v := nI 1) dX6_whatIs_132 (by decide)) (Snd.cons (snd_iload dX6_whatIs_133) Snd.nil))
theorem bX6_whatIs_137_139 {l : Launch} {E : XE} : Snd l E mX6_whatIs 137 139 (xs [x_istore 4]) := Snd.cons (snd_istore dX6_whatIs_137 (by decide)) Snd.nil
set_option maxHeartbeats 4000000 in
set_option maxRecDepth 100000 in
theorem p_whatIs_w0 {l : Launch} {E : XE} (T : TopN) (S P U : SaleN) (O : OutN) (B : BillN) (Q : SeaN) (C : ScrN) (R : PrtN) (tl rf : Nat → Nat) (b : Nat) (hS : SaleOK S) (hQ : Q.fd < 2147483648) (hb : b < 5) (hT : T.tc ≤ 5) (htl : ∀ k, k < T.tc → tl k ≤ 99) : MetE l E mX6_whatIs (5) 0 0 [.ref 0, .int (nI (b)), .int (nI (0))] (compW T S P U O B Q C R tl rf) (CP T S P (C.lt) (C.sz) tl rf (some (.int (nI (kiTo S b tl T.tc 6))))) := by
  refine MetE.of (by decide +kernel) (Nat.le_of_ble_eq_true rfl) ?_
  have hca := hS.1
  have hpw := pow_ca hS
  have hac := ac_lt hS
  
  refine ev_eq (lv' := [(0, .ref 0), (1, .int (nI (b))), (2, .int (nI (0)))]) (st' := []) (w' := compW T S P U O B Q C R tl rf) rfl rfl rfl ?_
  refine ev_b bX6_whatIs_0_1 (lv' := [(0, .ref 0), (1, .int (nI (b))), (2, .int (nI (0)))]) (st' := [.int (nI (b))]) (w2 := compW T S P U O B Q C R tl rf) rfl ?_
  refine ev_callS (Yc := mX6_isBidder) [] dX6_whatIs_1 tw_437 kX6_isBidder (m_X6_isBidder b (by omega)) rfl (st := []) rfl (by decide) rfl (by decide) (Nat.le_of_ble_eq_true rfl) (Nat.le_refl _) (Nat.le_refl _) (fun r w' h => by obtain ⟨-, rfl⟩ := h; exact Nat.le_of_ble_eq_true rfl) ?_
  rintro _ _ ⟨rfl, rfl⟩
  refine ev_eq (lv' := [(0, .ref 0), (1, .int (nI (b))), (2, .int (nI (0)))]) (st' := [.int (nI (b01 (b < 5)))]) (w' := compW T S P U O B Q C R tl rf) rfl rfl rfl ?_
  refine ev_ifne_b (tgt := 13) dX6_whatIs_4 (by decide) (fun h4 => ?_) (fun h4 => (by exfalso; omega))
  refine ev_b bX6_whatIs_13_14 (lv' := [(0, .ref 0), (1, .int (nI (b))), (2, .int (nI (0)))]) (st' := [.int (nI (0))]) (w2 := compW T S P U O B Q C R tl rf) rfl ?_
  refine ev_callS (Yc := mX6_isEither) [] dX6_whatIs_14 tw_667 kX6_isEither m_X6_isEither_0 rfl (st := []) rfl (by decide) rfl (by decide) (Nat.le_of_ble_eq_true rfl) (Nat.le_refl _) (Nat.le_refl _) (fun r w' h => by obtain ⟨-, rfl⟩ := h; exact Nat.le_of_ble_eq_true rfl) ?_
  rintro _ _ ⟨rfl, rfl⟩
  refine ev_eq (lv' := [(0, .ref 0), (1, .int (nI (b))), (2, .int (nI (0)))]) (st' := [.int (nI (1))]) (w' := compW T S P U O B Q C R tl rf) rfl rfl rfl ?_
  refine ev_if_ne_n (tgt := 27) (by decide) dX6_whatIs_17 (by decide) (fun h17 => ?_) (fun h17 => (by exfalso; omega))
  refine ev_b bX6_whatIs_27_35 (lv' := [(0, .ref 0), (1, .int (nI (b))), (2, .int (nI (0)))]) (st' := [.ref 1, .ref 17]) (w2 := compW T S P U O B Q C R tl rf) rfl ?_
  refine ev_callVN (Yc := mX3_takeFrom) [17, 18, 19, 20, 21, 22, 23, 24, 1, 2, 3, 4, 5, 6, 7, 8] dX6_whatIs_35 tn_372 kX3_takeFrom (m_X3_takeFrom U S) rfl (st := []) rfl rfl rfl (by decide) hw_comp__17_1 (by decide) (Nat.le_of_ble_eq_true rfl) (Nat.le_refl _) (Nat.le_refl _) (fun r w' h => by obtain ⟨-, rfl⟩ := h; exact Nat.le_of_ble_eq_true rfl) ?_
  rintro _ _ ⟨rfl, rfl⟩
  refine ev_eq (lv' := [(0, .ref 0), (1, .int (nI (b))), (2, .int (nI (0)))]) (st' := []) (w' := compW T S P S O B Q C R tl rf) rfl rfl xp_comp__17_1 ?_
  refine ev_b bX6_whatIs_38_39 (lv' := [(0, .ref 0), (1, .int (nI (b))), (2, .int (nI (0)))]) (st' := [.int (nI (0))]) (w2 := compW T S P S O B Q C R tl rf) rfl ?_
  refine ev_if_ne_n (tgt := 47) (by decide) dX6_whatIs_39 (by decide) (fun h39 => (by exfalso; omega)) (fun h39 => ?_)
  refine ev_b bX6_whatIs_42_56 (lv' := [(5, .int (nI (0))), (4, .int (nI (0))), (3, .int (nI (6))), (0, .ref 0), (1, .int (nI (b))), (2, .int (nI (0)))]) (st' := []) (w2 := compW T S P S O B Q C R tl rf) rfl ?_
  have L56 : ∀ (j_ k : Nat), k + j_ = 6 → ∀ (U1 : SaleN) (O1 : OutN) (B1 : BillN), (∀ q f, kindS U1 b q f = kindS S b q f) → Ev l E mX6_whatIs (5) 0 0 (compW T S P U O B Q C R tl rf) (CP T S P (C.lt) (C.sz) tl rf (some (.int (nI (kiTo S b tl T.tc 6))))) 0 0 56 [(5, .int (nI (k))), (4, .int (nI (kiTo S b tl T.tc k))), (0, .ref 0), (1, .int (nI (b))), (2, .int (nI (0))), (3, .int (nI (6)))] [] (compW T S P U1 O1 B1 Q C R tl rf) := by
    intro j_
    induction j_ with
    | zero =>
      intro k hk56 U1 O1 B1 hinv56
      replace hk56 : k = 6 := hk56
      subst hk56
      refine ev_b bX6_whatIs_56_59 (lv' := [(5, .int (nI (6))), (4, .int (nI (kiTo S b tl T.tc 6))), (0, .ref 0), (1, .int (nI (b))), (2, .int (nI (0))), (3, .int (nI (6)))]) (st' := [.int (nI (6)), .int (nI (6))]) (w2 := compW T S P U1 O1 B1 Q C R tl rf) rfl ?_
      refine ev_icmp_ge_n (tgt := 145) (by decide) (by decide) dX6_whatIs_59 (by decide) (fun h59 => ?_) (fun h59 => (by exfalso; omega))
      refine ev_b bX6_whatIs_145_147 (lv' := [(5, .int (nI (6))), (4, .int (nI (kiTo S b tl T.tc 6))), (0, .ref 0), (1, .int (nI (b))), (2, .int (nI (0))), (3, .int (nI (6)))]) (st' := [.int (nI (kiTo S b tl T.tc 6))]) (w2 := compW T S P U1 O1 B1 Q C R tl rf) rfl ?_
      exact ev_iret dX6_whatIs_147 rfl (Nat.le_refl 49) (Nat.le_refl _) (Nat.le_refl _) ⟨rfl, _, _, _, _, _, _, rfl, hQ, rfl, rfl⟩
    | succ j_ ih56 =>
      intro k hk56 U1 O1 B1 hinv56
      have hlt56 : k < 6 := by omega
      have hkb := hS.2.2.2.1 b hb
      have hU : SaleOK (kindS S b k (S.fg b)) := kind_ok hS (by omega) (by omega)
      refine ev_b bX6_whatIs_56_59 (lv' := [(5, .int (nI (k))), (4, .int (nI (kiTo S b tl T.tc k))), (0, .ref 0), (1, .int (nI (b))), (2, .int (nI (0))), (3, .int (nI (6)))]) (st' := [.int (nI (6)), .int (nI (k))]) (w2 := compW T S P U1 O1 B1 Q C R tl rf) rfl ?_
      refine ev_icmp_ge_n (tgt := 145) (by omega) (by decide) dX6_whatIs_59 (by decide) (fun h59 => (by exfalso; omega)) (fun h59 => ?_)
      refine ev_b bX6_whatIs_62_63 (lv' := [(5, .int (nI (k))), (4, .int (nI (kiTo S b tl T.tc k))), (0, .ref 0), (1, .int (nI (b))), (2, .int (nI (0))), (3, .int (nI (6)))]) (st' := [.int (nI (0))]) (w2 := compW T S P U1 O1 B1 Q C R tl rf) rfl ?_
      refine ev_if_ne_n (tgt := 71) (by decide) dX6_whatIs_63 (by decide) (fun h63 => (by exfalso; omega)) (fun h63 => ?_)
      refine ev_b bX6_whatIs_66_82 (lv' := [(6, .int (nI (k))), (5, .int (nI (k))), (4, .int (nI (kiTo S b tl T.tc k))), (0, .ref 0), (1, .int (nI (b))), (2, .int (nI (0))), (3, .int (nI (6)))]) (st' := [.int (nI (0))]) (w2 := compW T S P U1 O1 B1 Q C R tl rf) rfl ?_
      refine ev_if_ne_n (tgt := 96) (by decide) dX6_whatIs_82 (by decide) (fun h82 => (by exfalso; omega)) (fun h82 => ?_)
      refine ev_b bX6_whatIs_85_90 (lv' := [(6, .int (nI (k))), (5, .int (nI (k))), (4, .int (nI (kiTo S b tl T.tc k))), (0, .ref 0), (1, .int (nI (b))), (2, .int (nI (0))), (3, .int (nI (6)))]) (st' := [.int (nI (b)), .ref 1]) (w2 := compW T S P U1 O1 B1 Q C R tl rf) rfl ?_
      refine ev_callVN (Yc := mX3_figureOf) [1, 2, 3, 4, 5, 6, 7, 8] dX6_whatIs_90 tn_466 kX3_figureOf (m_X3_figureOf S b hb) rfl (st := []) rfl rfl rfl (by decide) hw_comp__1 (by decide) (Nat.le_of_ble_eq_true rfl) (Nat.le_refl _) (Nat.le_refl _) (fun r w' h => by obtain ⟨-, rfl⟩ := h; exact Nat.le_of_ble_eq_true rfl) ?_
      rintro _ _ ⟨rfl, rfl⟩
      refine ev_eq (lv' := [(6, .int (nI (k))), (5, .int (nI (k))), (4, .int (nI (kiTo S b tl T.tc k))), (0, .ref 0), (1, .int (nI (b))), (2, .int (nI (0))), (3, .int (nI (6)))]) (st' := [.int (nI (S.fg b))]) (w' := compW T S P U1 O1 B1 Q C R tl rf) rfl rfl xp_comp__1 ?_
      refine ev_b bX6_whatIs_93_109 (lv' := [(7, .int (nI (S.fg b))), (6, .int (nI (k))), (5, .int (nI (k))), (4, .int (nI (kiTo S b tl T.tc k))), (0, .ref 0), (1, .int (nI (b))), (2, .int (nI (0))), (3, .int (nI (6)))]) (st' := [.int (nI (S.fg b)), .int (nI (k)), .int (nI (b)), .ref 17]) (w2 := compW T S P U1 O1 B1 Q C R tl rf) rfl ?_
      refine ev_callVN (Yc := mX3_setKind) [17, 18, 19, 20, 21, 22, 23, 24] dX6_whatIs_109 tn_470 kX3_setKind (m_X3_setKind U1 b k (S.fg b) hb) rfl (st := []) rfl rfl rfl (by decide) hw_comp__17 (by decide) (Nat.le_of_ble_eq_true rfl) (Nat.le_refl _) (Nat.le_refl _) (fun r w' h => by obtain ⟨-, rfl⟩ := h; exact Nat.le_of_ble_eq_true rfl) ?_
      rintro _ _ ⟨rfl, rfl⟩
      refine ev_eq (lv' := [(7, .int (nI (S.fg b))), (6, .int (nI (k))), (5, .int (nI (k))), (4, .int (nI (kiTo S b tl T.tc k))), (0, .ref 0), (1, .int (nI (b))), (2, .int (nI (0))), (3, .int (nI (6)))]) (st' := []) (w' := compW T S P ((kindS U1 b k (S.fg b))) O1 B1 Q C R tl rf) rfl rfl xp_comp__17 ?_
      rw [hinv56]
      refine ev_b bX6_whatIs_112_117 (lv' := [(7, .int (nI (S.fg b))), (6, .int (nI (k))), (5, .int (nI (k))), (4, .int (nI (kiTo S b tl T.tc k))), (0, .ref 0), (1, .int (nI (b))), (2, .int (nI (0))), (3, .int (nI (6)))]) (st' := [.ref 17, .ref 0]) (w2 := compW T S P ((kindS S b k (S.fg b))) O1 B1 Q C R tl rf) rfl ?_
      refine ev_callV (Yc := mX6_charge) (rng 0 49) dX6_whatIs_117 tw_588 kX6_charge (m_X6_charge_U T S P ((kindS S b k (S.fg b))) O1 B1 Q C R tl rf hU) rfl (st := []) rfl rfl rfl (by decide) comp_hw (by decide) (Nat.le_of_ble_eq_true rfl) (Nat.le_refl _) (Nat.le_refl _) (fun r w' h => by obtain ⟨-, O', rfl, -⟩ := h; exact Nat.le_refl 49) ?_
      rintro _ _ ⟨rfl, O2, rfl, hK2⟩
      refine ev_eq (lv' := [(7, .int (nI (S.fg b))), (6, .int (nI (k))), (5, .int (nI (k))), (4, .int (nI (kiTo S b tl T.tc k))), (0, .ref 0), (1, .int (nI (b))), (2, .int (nI (0))), (3, .int (nI (6)))]) (st' := []) (w' := compW T S P ((kindS S b k (S.fg b))) O2 ((chB (kindS S b k (S.fg b)) B1.li B1.gw B1.un B1.lc)) Q C R tl rf) rfl rfl comp_xp ?_
      refine ev_b bX6_whatIs_120_122 (lv' := [(7, .int (nI (S.fg b))), (6, .int (nI (k))), (5, .int (nI (k))), (4, .int (nI (kiTo S b tl T.tc k))), (0, .ref 0), (1, .int (nI (b))), (2, .int (nI (0))), (3, .int (nI (6)))]) (st' := [.int (nI (1)), .ref 0]) (w2 := compW T S P ((kindS S b k (S.fg b))) O2 ((chB (kindS S b k (S.fg b)) B1.li B1.gw B1.un B1.lc)) Q C R tl rf) rfl ?_
      refine ev_callV (Yc := mX6_firstWrongTold) (rng 0 49) dX6_whatIs_122 tw_854 kX6_firstWrongTold (m_X6_firstWrongTold_1 T S P ((kindS S b k (S.fg b))) O2 ((chB (kindS S b k (S.fg b)) B1.li B1.gw B1.un B1.lc)) Q C R tl rf (paid_b hU) hT htl) rfl (st := []) rfl rfl rfl (by decide) comp_hw (by decide) (Nat.le_of_ble_eq_true rfl) (Nat.le_refl _) (Nat.le_refl _) (fun r w' h => by obtain ⟨-, rfl⟩ := h; exact Nat.le_of_ble_eq_true rfl) ?_
      rintro _ _ ⟨rfl, rfl⟩
      refine ev_eq (lv' := [(7, .int (nI (S.fg b))), (6, .int (nI (k))), (5, .int (nI (k))), (4, .int (nI (kiTo S b tl T.tc k))), (0, .ref 0), (1, .int (nI (b))), (2, .int (nI (0))), (3, .int (nI (6)))]) (st' := [.int (zI (fwZ tl (BillN.ha (chB (kindS S b k (S.fg b)) B1.li B1.gw B1.un B1.lc)) T.tc 0))]) (w' := compW T S P ((kindS S b k (S.fg b))) O2 ((chB (kindS S b k (S.fg b)) B1.li B1.gw B1.un B1.lc)) Q C R tl rf) rfl rfl comp_xp ?_
      have hfw := fwZ_bnd (tl := tl) (f := paidZ (kindS S b k (S.fg b))) T.tc 0
      refine ev_top (y := (zI (fwZ tl (paidZ (kindS S b k (S.fg b))) T.tc 0))) (congrArg zI (show fwZ tl (BillN.ha (chB (kindS S b k (S.fg b)) B1.li B1.gw B1.un B1.lc)) T.tc 0 = fwZ tl (paidZ (kindS S b k (S.fg b))) T.tc 0 from by rfl)) ?_
      refine ev_b bX6_whatIs_125_127 (lv' := [(7, .int (nI (S.fg b))), (6, .int (nI (k))), (5, .int (nI (k))), (4, .int (nI (kiTo S b tl T.tc k))), (0, .ref 0), (1, .int (nI (b))), (2, .int (nI (0))), (3, .int (nI (6)))]) (st' := [.int (-9), .int (zI (fwZ tl (paidZ (kindS S b k (S.fg b))) T.tc 0))]) (w2 := compW T S P ((kindS S b k (S.fg b))) O2 ((chB (kindS S b k (S.fg b)) B1.li B1.gw B1.un B1.lc)) Q C R tl rf) rfl ?_
      refine ev_top (y := zI (-9)) (by decide) ?_
      refine ev_icmp_ne_z (tgt := 139) (by constructor <;> omega) (by constructor <;> omega) dX6_whatIs_127 (by decide) (fun h127 => ?_) (fun h127 => ?_)
      · skip
        refine ev_iinc_n (x := k) (v := 1) dX6_whatIs_139 rfl (by decide) ?_
        refine ev_eq (lv' := [(5, .int (nI (k + 1))), (7, .int (nI (S.fg b))), (6, .int (nI (k))), (4, .int (nI (kiTo S b tl T.tc k))), (0, .ref 0), (1, .int (nI (b))), (2, .int (nI (0))), (3, .int (nI (6)))]) rfl rfl rfl ?_
        refine ev_b bX6_whatIs_142_56 (lv' := [(5, .int (nI (k + 1))), (7, .int (nI (S.fg b))), (6, .int (nI (k))), (4, .int (nI (kiTo S b tl T.tc k))), (0, .ref 0), (1, .int (nI (b))), (2, .int (nI (0))), (3, .int (nI (6)))]) (st' := []) (w2 := compW T S P ((kindS S b k (S.fg b))) O2 ((chB (kindS S b k (S.fg b)) B1.li B1.gw B1.un B1.lc)) Q C R tl rf) rfl ?_
        refine ev_pick (lv' := [(5, .int (nI (k + 1))), (4, .int (nI (kiTo S b tl T.tc k))), (0, .ref 0), (1, .int (nI (b))), (2, .int (nI (0))), (3, .int (nI (6)))]) rfl ?_
        rw [show nI (k + 1) = nI ((k + 1)) from congrArg nI (by omega)]
        rw [show nI (kiTo S b tl T.tc k) = nI (kiTo S b tl T.tc (k + 1)) from congrArg nI (by rw [kiTo_s]; first | rw [if_pos h127] | rw [if_neg h127])]
        exact ih56 (k + 1) (by omega) ((kindS S b k (S.fg b))) O2 ((chB (kindS S b k (S.fg b)) B1.li B1.gw B1.un B1.lc)) kind_kind
      · skip
        refine ev_b bX6_whatIs_130_135 (lv' := [(7, .int (nI (S.fg b))), (6, .int (nI (k))), (5, .int (nI (k))), (4, .int (nI (kiTo S b tl T.tc k))), (0, .ref 0), (1, .int (nI (b))), (2, .int (nI (0))), (3, .int (nI (6)))]) (st' := [.int (nI (k)), .int (nI (1)), .int (nI (kiTo S b tl T.tc k))]) (w2 := compW T S P ((kindS S b k (S.fg b))) O2 ((chB (kindS S b k (S.fg b)) B1.li B1.gw B1.un B1.lc)) Q C R tl rf) rfl ?_
        refine ev_ishl_n (by omega) dX6_whatIs_135 ?_
        refine ev_ior_n dX6_whatIs_136 ?_
        refine ev_b bX6_whatIs_137_139 (lv' := [(4, .int (nI ((kiTo S b tl T.tc k) ||| (1 <<< k)))), (7, .int (nI (S.fg b))), (6, .int (nI (k))), (5, .int (nI (k))), (0, .ref 0), (1, .int (nI (b))), (2, .int (nI (0))), (3, .int (nI (6)))]) (st' := []) (w2 := compW T S P ((kindS S b k (S.fg b))) O2 ((chB (kindS S b k (S.fg b)) B1.li B1.gw B1.un B1.lc)) Q C R tl rf) rfl ?_
        refine ev_iinc_n (x := k) (v := 1) dX6_whatIs_139 rfl (by decide) ?_
        refine ev_eq (lv' := [(5, .int (nI (k + 1))), (4, .int (nI ((kiTo S b tl T.tc k) ||| (1 <<< k)))), (7, .int (nI (S.fg b))), (6, .int (nI (k))), (0, .ref 0), (1, .int (nI (b))), (2, .int (nI (0))), (3, .int (nI (6)))]) rfl rfl rfl ?_
        refine ev_b bX6_whatIs_142_56 (lv' := [(5, .int (nI (k + 1))), (4, .int (nI ((kiTo S b tl T.tc k) ||| (1 <<< k)))), (7, .int (nI (S.fg b))), (6, .int (nI (k))), (0, .ref 0), (1, .int (nI (b))), (2, .int (nI (0))), (3, .int (nI (6)))]) (st' := []) (w2 := compW T S P ((kindS S b k (S.fg b))) O2 ((chB (kindS S b k (S.fg b)) B1.li B1.gw B1.un B1.lc)) Q C R tl rf) rfl ?_
        refine ev_pick (lv' := [(5, .int (nI (k + 1))), (4, .int (nI ((kiTo S b tl T.tc k) ||| (1 <<< k)))), (0, .ref 0), (1, .int (nI (b))), (2, .int (nI (0))), (3, .int (nI (6)))]) rfl ?_
        rw [show nI (k + 1) = nI ((k + 1)) from congrArg nI (by omega)]
        rw [show nI ((kiTo S b tl T.tc k) ||| (1 <<< k)) = nI (kiTo S b tl T.tc (k + 1)) from congrArg nI (by rw [kiTo_s]; first | rw [if_pos h127] | rw [if_neg h127])]
        exact ih56 (k + 1) (by omega) ((kindS S b k (S.fg b))) O2 ((chB (kindS S b k (S.fg b)) B1.li B1.gw B1.un B1.lc)) kind_kind
  refine ev_pick (lv' := [(5, .int (nI (0))), (4, .int (nI (0))), (0, .ref 0), (1, .int (nI (b))), (2, .int (nI (0))), (3, .int (nI (6)))]) rfl ?_
  exact L56 6 0 (by omega) S O B (fun _ _ => rfl)
theorem bX6_whatIs_47_56 {l : Launch} {E : XE} : Snd l E mX6_whatIs 47 56 (xs [x_push (.int (nI 10)), x_istore 3, x_push (.int (nI 0)), x_istore 4, x_push (.int (nI 0)), x_istore 5]) := Snd.cons (snd_bipush (v := nI 10) dX6_whatIs_47 (by decide)) (Snd.cons (snd_istore_n (i := 3) dX6_whatIs_49 rfl (by decide)) (Snd.cons (snd_iconst (v := nI 0) dX6_whatIs_50 (by decide)) (Snd.cons (snd_istore dX6_whatIs_51 (by decide)) (Snd.cons (snd_iconst (v := nI 0) dX6_whatIs_53 (by decide)) (Snd.cons (snd_istore dX6_whatIs_54 (by decide)) Snd.nil)))))
theorem bX6_whatIs_71_76 {l : Launch} {E : XE} : Snd l E mX6_whatIs 71 76 (xs [x_aload 0, x_get 7 0, x_iload 1]) := Snd.cons (snd_aload_n (i := 0) dX6_whatIs_71 rfl) (Snd.cons (snd_get (ci := 7) (k := 0) dX6_whatIs_72 rfl inX6 (by decide) tw_207) (Snd.cons (snd_iload_n (i := 1) dX6_whatIs_75 rfl) Snd.nil))
theorem bX6_whatIs_79_82 {l : Launch} {E : XE} : Snd l E mX6_whatIs 79 82 (xs [x_istore 6, x_iload 2]) := Snd.cons (snd_istore dX6_whatIs_79 (by decide)) (Snd.cons (snd_iload_n (i := 2) dX6_whatIs_81 rfl) Snd.nil)
theorem bX6_whatIs_96_109 {l : Launch} {E : XE} : Snd l E mX6_whatIs 96 109 (xs [x_iload 5, x_istore 7, x_aload 0, x_get 7 2, x_iload 1, x_iload 6, x_iload 7]) := Snd.cons (snd_iload dX6_whatIs_96) (Snd.cons (snd_istore dX6_whatIs_98 (by decide)) (Snd.cons (snd_aload_n (i := 0) dX6_whatIs_100 rfl) (Snd.cons (snd_get (ci := 7) (k := 2) dX6_whatIs_101 rfl inX6 (by decide) tw_209) (Snd.cons (snd_iload_n (i := 1) dX6_whatIs_104 rfl) (Snd.cons (snd_iload dX6_whatIs_105) (Snd.cons (snd_iload dX6_whatIs_107) Snd.nil))))))
set_option maxHeartbeats 4000000 in
set_option maxRecDepth 100000 in
theorem p_whatIs_w1 {l : Launch} {E : XE} (T : TopN) (S P U : SaleN) (O : OutN) (B : BillN) (Q : SeaN) (C : ScrN) (R : PrtN) (tl rf : Nat → Nat) (b : Nat) (hS : SaleOK S) (hQ : Q.fd < 2147483648) (hb : b < 5) (hT : T.tc ≤ 5) (htl : ∀ k, k < T.tc → tl k ≤ 99) : MetE l E mX6_whatIs (5) 0 0 [.ref 0, .int (nI (b)), .int (nI (1))] (compW T S P U O B Q C R tl rf) (CP T S P (C.lt) (C.sz) tl rf (some (.int (nI (fiTo S b tl T.tc 10))))) := by
  refine MetE.of (by decide +kernel) (Nat.le_of_ble_eq_true rfl) ?_
  have hca := hS.1
  have hpw := pow_ca hS
  have hac := ac_lt hS
  
  refine ev_eq (lv' := [(0, .ref 0), (1, .int (nI (b))), (2, .int (nI (1)))]) (st' := []) (w' := compW T S P U O B Q C R tl rf) rfl rfl rfl ?_
  refine ev_b bX6_whatIs_0_1 (lv' := [(0, .ref 0), (1, .int (nI (b))), (2, .int (nI (1)))]) (st' := [.int (nI (b))]) (w2 := compW T S P U O B Q C R tl rf) rfl ?_
  refine ev_callS (Yc := mX6_isBidder) [] dX6_whatIs_1 tw_437 kX6_isBidder (m_X6_isBidder b (by omega)) rfl (st := []) rfl (by decide) rfl (by decide) (Nat.le_of_ble_eq_true rfl) (Nat.le_refl _) (Nat.le_refl _) (fun r w' h => by obtain ⟨-, rfl⟩ := h; exact Nat.le_of_ble_eq_true rfl) ?_
  rintro _ _ ⟨rfl, rfl⟩
  refine ev_eq (lv' := [(0, .ref 0), (1, .int (nI (b))), (2, .int (nI (1)))]) (st' := [.int (nI (b01 (b < 5)))]) (w' := compW T S P U O B Q C R tl rf) rfl rfl rfl ?_
  refine ev_ifne_b (tgt := 13) dX6_whatIs_4 (by decide) (fun h4 => ?_) (fun h4 => (by exfalso; omega))
  refine ev_b bX6_whatIs_13_14 (lv' := [(0, .ref 0), (1, .int (nI (b))), (2, .int (nI (1)))]) (st' := [.int (nI (1))]) (w2 := compW T S P U O B Q C R tl rf) rfl ?_
  refine ev_callS (Yc := mX6_isEither) [] dX6_whatIs_14 tw_667 kX6_isEither m_X6_isEither_1 rfl (st := []) rfl (by decide) rfl (by decide) (Nat.le_of_ble_eq_true rfl) (Nat.le_refl _) (Nat.le_refl _) (fun r w' h => by obtain ⟨-, rfl⟩ := h; exact Nat.le_of_ble_eq_true rfl) ?_
  rintro _ _ ⟨rfl, rfl⟩
  refine ev_eq (lv' := [(0, .ref 0), (1, .int (nI (b))), (2, .int (nI (1)))]) (st' := [.int (nI (1))]) (w' := compW T S P U O B Q C R tl rf) rfl rfl rfl ?_
  refine ev_if_ne_n (tgt := 27) (by decide) dX6_whatIs_17 (by decide) (fun h17 => ?_) (fun h17 => (by exfalso; omega))
  refine ev_b bX6_whatIs_27_35 (lv' := [(0, .ref 0), (1, .int (nI (b))), (2, .int (nI (1)))]) (st' := [.ref 1, .ref 17]) (w2 := compW T S P U O B Q C R tl rf) rfl ?_
  refine ev_callVN (Yc := mX3_takeFrom) [17, 18, 19, 20, 21, 22, 23, 24, 1, 2, 3, 4, 5, 6, 7, 8] dX6_whatIs_35 tn_372 kX3_takeFrom (m_X3_takeFrom U S) rfl (st := []) rfl rfl rfl (by decide) hw_comp__17_1 (by decide) (Nat.le_of_ble_eq_true rfl) (Nat.le_refl _) (Nat.le_refl _) (fun r w' h => by obtain ⟨-, rfl⟩ := h; exact Nat.le_of_ble_eq_true rfl) ?_
  rintro _ _ ⟨rfl, rfl⟩
  refine ev_eq (lv' := [(0, .ref 0), (1, .int (nI (b))), (2, .int (nI (1)))]) (st' := []) (w' := compW T S P S O B Q C R tl rf) rfl rfl xp_comp__17_1 ?_
  refine ev_b bX6_whatIs_38_39 (lv' := [(0, .ref 0), (1, .int (nI (b))), (2, .int (nI (1)))]) (st' := [.int (nI (1))]) (w2 := compW T S P S O B Q C R tl rf) rfl ?_
  refine ev_if_ne_n (tgt := 47) (by decide) dX6_whatIs_39 (by decide) (fun h39 => ?_) (fun h39 => (by exfalso; omega))
  refine ev_b bX6_whatIs_47_56 (lv' := [(5, .int (nI (0))), (4, .int (nI (0))), (3, .int (nI (10))), (0, .ref 0), (1, .int (nI (b))), (2, .int (nI (1)))]) (st' := []) (w2 := compW T S P S O B Q C R tl rf) rfl ?_
  have L56 : ∀ (j_ k : Nat), k + j_ = 10 → ∀ (U1 : SaleN) (O1 : OutN) (B1 : BillN), (∀ q f, kindS U1 b q f = kindS S b q f) → Ev l E mX6_whatIs (5) 0 0 (compW T S P U O B Q C R tl rf) (CP T S P (C.lt) (C.sz) tl rf (some (.int (nI (fiTo S b tl T.tc 10))))) 0 0 56 [(5, .int (nI (k))), (4, .int (nI (fiTo S b tl T.tc k))), (0, .ref 0), (1, .int (nI (b))), (2, .int (nI (1))), (3, .int (nI (10)))] [] (compW T S P U1 O1 B1 Q C R tl rf) := by
    intro j_
    induction j_ with
    | zero =>
      intro k hk56 U1 O1 B1 hinv56
      replace hk56 : k = 10 := hk56
      subst hk56
      refine ev_b bX6_whatIs_56_59 (lv' := [(5, .int (nI (10))), (4, .int (nI (fiTo S b tl T.tc 10))), (0, .ref 0), (1, .int (nI (b))), (2, .int (nI (1))), (3, .int (nI (10)))]) (st' := [.int (nI (10)), .int (nI (10))]) (w2 := compW T S P U1 O1 B1 Q C R tl rf) rfl ?_
      refine ev_icmp_ge_n (tgt := 145) (by decide) (by decide) dX6_whatIs_59 (by decide) (fun h59 => ?_) (fun h59 => (by exfalso; omega))
      refine ev_b bX6_whatIs_145_147 (lv' := [(5, .int (nI (10))), (4, .int (nI (fiTo S b tl T.tc 10))), (0, .ref 0), (1, .int (nI (b))), (2, .int (nI (1))), (3, .int (nI (10)))]) (st' := [.int (nI (fiTo S b tl T.tc 10))]) (w2 := compW T S P U1 O1 B1 Q C R tl rf) rfl ?_
      exact ev_iret dX6_whatIs_147 rfl (Nat.le_refl 49) (Nat.le_refl _) (Nat.le_refl _) ⟨rfl, _, _, _, _, _, _, rfl, hQ, rfl, rfl⟩
    | succ j_ ih56 =>
      intro k hk56 U1 O1 B1 hinv56
      have hlt56 : k < 10 := by omega
      have hkb := hS.2.2.2.1 b hb
      have hU : SaleOK (kindS S b (S.kd b) k) := kind_ok hS (by omega) (by omega)
      refine ev_b bX6_whatIs_56_59 (lv' := [(5, .int (nI (k))), (4, .int (nI (fiTo S b tl T.tc k))), (0, .ref 0), (1, .int (nI (b))), (2, .int (nI (1))), (3, .int (nI (10)))]) (st' := [.int (nI (10)), .int (nI (k))]) (w2 := compW T S P U1 O1 B1 Q C R tl rf) rfl ?_
      refine ev_icmp_ge_n (tgt := 145) (by omega) (by decide) dX6_whatIs_59 (by decide) (fun h59 => (by exfalso; omega)) (fun h59 => ?_)
      refine ev_b bX6_whatIs_62_63 (lv' := [(5, .int (nI (k))), (4, .int (nI (fiTo S b tl T.tc k))), (0, .ref 0), (1, .int (nI (b))), (2, .int (nI (1))), (3, .int (nI (10)))]) (st' := [.int (nI (1))]) (w2 := compW T S P U1 O1 B1 Q C R tl rf) rfl ?_
      refine ev_if_ne_n (tgt := 71) (by decide) dX6_whatIs_63 (by decide) (fun h63 => ?_) (fun h63 => (by exfalso; omega))
      refine ev_b bX6_whatIs_71_76 (lv' := [(5, .int (nI (k))), (4, .int (nI (fiTo S b tl T.tc k))), (0, .ref 0), (1, .int (nI (b))), (2, .int (nI (1))), (3, .int (nI (10)))]) (st' := [.int (nI (b)), .ref 1]) (w2 := compW T S P U1 O1 B1 Q C R tl rf) rfl ?_
      refine ev_callVN (Yc := mX3_kindOf) [1, 2, 3, 4, 5, 6, 7, 8] dX6_whatIs_76 tn_462 kX3_kindOf (m_X3_kindOf S b hb) rfl (st := []) rfl rfl rfl (by decide) hw_comp__1 (by decide) (Nat.le_of_ble_eq_true rfl) (Nat.le_refl _) (Nat.le_refl _) (fun r w' h => by obtain ⟨-, rfl⟩ := h; exact Nat.le_of_ble_eq_true rfl) ?_
      rintro _ _ ⟨rfl, rfl⟩
      refine ev_eq (lv' := [(5, .int (nI (k))), (4, .int (nI (fiTo S b tl T.tc k))), (0, .ref 0), (1, .int (nI (b))), (2, .int (nI (1))), (3, .int (nI (10)))]) (st' := [.int (nI (S.kd b))]) (w' := compW T S P U1 O1 B1 Q C R tl rf) rfl rfl xp_comp__1 ?_
      refine ev_b bX6_whatIs_79_82 (lv' := [(6, .int (nI (S.kd b))), (5, .int (nI (k))), (4, .int (nI (fiTo S b tl T.tc k))), (0, .ref 0), (1, .int (nI (b))), (2, .int (nI (1))), (3, .int (nI (10)))]) (st' := [.int (nI (1))]) (w2 := compW T S P U1 O1 B1 Q C R tl rf) rfl ?_
      refine ev_if_ne_n (tgt := 96) (by decide) dX6_whatIs_82 (by decide) (fun h82 => ?_) (fun h82 => (by exfalso; omega))
      refine ev_b bX6_whatIs_96_109 (lv' := [(7, .int (nI (k))), (6, .int (nI (S.kd b))), (5, .int (nI (k))), (4, .int (nI (fiTo S b tl T.tc k))), (0, .ref 0), (1, .int (nI (b))), (2, .int (nI (1))), (3, .int (nI (10)))]) (st' := [.int (nI (k)), .int (nI (S.kd b)), .int (nI (b)), .ref 17]) (w2 := compW T S P U1 O1 B1 Q C R tl rf) rfl ?_
      refine ev_callVN (Yc := mX3_setKind) [17, 18, 19, 20, 21, 22, 23, 24] dX6_whatIs_109 tn_470 kX3_setKind (m_X3_setKind U1 b (S.kd b) k hb) rfl (st := []) rfl rfl rfl (by decide) hw_comp__17 (by decide) (Nat.le_of_ble_eq_true rfl) (Nat.le_refl _) (Nat.le_refl _) (fun r w' h => by obtain ⟨-, rfl⟩ := h; exact Nat.le_of_ble_eq_true rfl) ?_
      rintro _ _ ⟨rfl, rfl⟩
      refine ev_eq (lv' := [(7, .int (nI (k))), (6, .int (nI (S.kd b))), (5, .int (nI (k))), (4, .int (nI (fiTo S b tl T.tc k))), (0, .ref 0), (1, .int (nI (b))), (2, .int (nI (1))), (3, .int (nI (10)))]) (st' := []) (w' := compW T S P ((kindS U1 b (S.kd b) k)) O1 B1 Q C R tl rf) rfl rfl xp_comp__17 ?_
      rw [hinv56]
      refine ev_b bX6_whatIs_112_117 (lv' := [(7, .int (nI (k))), (6, .int (nI (S.kd b))), (5, .int (nI (k))), (4, .int (nI (fiTo S b tl T.tc k))), (0, .ref 0), (1, .int (nI (b))), (2, .int (nI (1))), (3, .int (nI (10)))]) (st' := [.ref 17, .ref 0]) (w2 := compW T S P ((kindS S b (S.kd b) k)) O1 B1 Q C R tl rf) rfl ?_
      refine ev_callV (Yc := mX6_charge) (rng 0 49) dX6_whatIs_117 tw_588 kX6_charge (m_X6_charge_U T S P ((kindS S b (S.kd b) k)) O1 B1 Q C R tl rf hU) rfl (st := []) rfl rfl rfl (by decide) comp_hw (by decide) (Nat.le_of_ble_eq_true rfl) (Nat.le_refl _) (Nat.le_refl _) (fun r w' h => by obtain ⟨-, O', rfl, -⟩ := h; exact Nat.le_refl 49) ?_
      rintro _ _ ⟨rfl, O2, rfl, hK2⟩
      refine ev_eq (lv' := [(7, .int (nI (k))), (6, .int (nI (S.kd b))), (5, .int (nI (k))), (4, .int (nI (fiTo S b tl T.tc k))), (0, .ref 0), (1, .int (nI (b))), (2, .int (nI (1))), (3, .int (nI (10)))]) (st' := []) (w' := compW T S P ((kindS S b (S.kd b) k)) O2 ((chB (kindS S b (S.kd b) k) B1.li B1.gw B1.un B1.lc)) Q C R tl rf) rfl rfl comp_xp ?_
      refine ev_b bX6_whatIs_120_122 (lv' := [(7, .int (nI (k))), (6, .int (nI (S.kd b))), (5, .int (nI (k))), (4, .int (nI (fiTo S b tl T.tc k))), (0, .ref 0), (1, .int (nI (b))), (2, .int (nI (1))), (3, .int (nI (10)))]) (st' := [.int (nI (1)), .ref 0]) (w2 := compW T S P ((kindS S b (S.kd b) k)) O2 ((chB (kindS S b (S.kd b) k) B1.li B1.gw B1.un B1.lc)) Q C R tl rf) rfl ?_
      refine ev_callV (Yc := mX6_firstWrongTold) (rng 0 49) dX6_whatIs_122 tw_854 kX6_firstWrongTold (m_X6_firstWrongTold_1 T S P ((kindS S b (S.kd b) k)) O2 ((chB (kindS S b (S.kd b) k) B1.li B1.gw B1.un B1.lc)) Q C R tl rf (paid_b hU) hT htl) rfl (st := []) rfl rfl rfl (by decide) comp_hw (by decide) (Nat.le_of_ble_eq_true rfl) (Nat.le_refl _) (Nat.le_refl _) (fun r w' h => by obtain ⟨-, rfl⟩ := h; exact Nat.le_of_ble_eq_true rfl) ?_
      rintro _ _ ⟨rfl, rfl⟩
      refine ev_eq (lv' := [(7, .int (nI (k))), (6, .int (nI (S.kd b))), (5, .int (nI (k))), (4, .int (nI (fiTo S b tl T.tc k))), (0, .ref 0), (1, .int (nI (b))), (2, .int (nI (1))), (3, .int (nI (10)))]) (st' := [.int (zI (fwZ tl (BillN.ha (chB (kindS S b (S.kd b) k) B1.li B1.gw B1.un B1.lc)) T.tc 0))]) (w' := compW T S P ((kindS S b (S.kd b) k)) O2 ((chB (kindS S b (S.kd b) k) B1.li B1.gw B1.un B1.lc)) Q C R tl rf) rfl rfl comp_xp ?_
      have hfw := fwZ_bnd (tl := tl) (f := paidZ (kindS S b (S.kd b) k)) T.tc 0
      refine ev_top (y := (zI (fwZ tl (paidZ (kindS S b (S.kd b) k)) T.tc 0))) (congrArg zI (show fwZ tl (BillN.ha (chB (kindS S b (S.kd b) k) B1.li B1.gw B1.un B1.lc)) T.tc 0 = fwZ tl (paidZ (kindS S b (S.kd b) k)) T.tc 0 from by rfl)) ?_
      refine ev_b bX6_whatIs_125_127 (lv' := [(7, .int (nI (k))), (6, .int (nI (S.kd b))), (5, .int (nI (k))), (4, .int (nI (fiTo S b tl T.tc k))), (0, .ref 0), (1, .int (nI (b))), (2, .int (nI (1))), (3, .int (nI (10)))]) (st' := [.int (-9), .int (zI (fwZ tl (paidZ (kindS S b (S.kd b) k)) T.tc 0))]) (w2 := compW T S P ((kindS S b (S.kd b) k)) O2 ((chB (kindS S b (S.kd b) k) B1.li B1.gw B1.un B1.lc)) Q C R tl rf) rfl ?_
      refine ev_top (y := zI (-9)) (by decide) ?_
      refine ev_icmp_ne_z (tgt := 139) (by constructor <;> omega) (by constructor <;> omega) dX6_whatIs_127 (by decide) (fun h127 => ?_) (fun h127 => ?_)
      · skip
        refine ev_iinc_n (x := k) (v := 1) dX6_whatIs_139 rfl (by decide) ?_
        refine ev_eq (lv' := [(5, .int (nI (k + 1))), (7, .int (nI (k))), (6, .int (nI (S.kd b))), (4, .int (nI (fiTo S b tl T.tc k))), (0, .ref 0), (1, .int (nI (b))), (2, .int (nI (1))), (3, .int (nI (10)))]) rfl rfl rfl ?_
        refine ev_b bX6_whatIs_142_56 (lv' := [(5, .int (nI (k + 1))), (7, .int (nI (k))), (6, .int (nI (S.kd b))), (4, .int (nI (fiTo S b tl T.tc k))), (0, .ref 0), (1, .int (nI (b))), (2, .int (nI (1))), (3, .int (nI (10)))]) (st' := []) (w2 := compW T S P ((kindS S b (S.kd b) k)) O2 ((chB (kindS S b (S.kd b) k) B1.li B1.gw B1.un B1.lc)) Q C R tl rf) rfl ?_
        refine ev_pick (lv' := [(5, .int (nI (k + 1))), (4, .int (nI (fiTo S b tl T.tc k))), (0, .ref 0), (1, .int (nI (b))), (2, .int (nI (1))), (3, .int (nI (10)))]) rfl ?_
        rw [show nI (k + 1) = nI ((k + 1)) from congrArg nI (by omega)]
        rw [show nI (fiTo S b tl T.tc k) = nI (fiTo S b tl T.tc (k + 1)) from congrArg nI (by rw [fiTo_s]; first | rw [if_pos h127] | rw [if_neg h127])]
        exact ih56 (k + 1) (by omega) ((kindS S b (S.kd b) k)) O2 ((chB (kindS S b (S.kd b) k) B1.li B1.gw B1.un B1.lc)) kind_kind
      · skip
        refine ev_b bX6_whatIs_130_135 (lv' := [(7, .int (nI (k))), (6, .int (nI (S.kd b))), (5, .int (nI (k))), (4, .int (nI (fiTo S b tl T.tc k))), (0, .ref 0), (1, .int (nI (b))), (2, .int (nI (1))), (3, .int (nI (10)))]) (st' := [.int (nI (k)), .int (nI (1)), .int (nI (fiTo S b tl T.tc k))]) (w2 := compW T S P ((kindS S b (S.kd b) k)) O2 ((chB (kindS S b (S.kd b) k) B1.li B1.gw B1.un B1.lc)) Q C R tl rf) rfl ?_
        refine ev_ishl_n (by omega) dX6_whatIs_135 ?_
        refine ev_ior_n dX6_whatIs_136 ?_
        refine ev_b bX6_whatIs_137_139 (lv' := [(4, .int (nI ((fiTo S b tl T.tc k) ||| (1 <<< k)))), (7, .int (nI (k))), (6, .int (nI (S.kd b))), (5, .int (nI (k))), (0, .ref 0), (1, .int (nI (b))), (2, .int (nI (1))), (3, .int (nI (10)))]) (st' := []) (w2 := compW T S P ((kindS S b (S.kd b) k)) O2 ((chB (kindS S b (S.kd b) k) B1.li B1.gw B1.un B1.lc)) Q C R tl rf) rfl ?_
        refine ev_iinc_n (x := k) (v := 1) dX6_whatIs_139 rfl (by decide) ?_
        refine ev_eq (lv' := [(5, .int (nI (k + 1))), (4, .int (nI ((fiTo S b tl T.tc k) ||| (1 <<< k)))), (7, .int (nI (k))), (6, .int (nI (S.kd b))), (0, .ref 0), (1, .int (nI (b))), (2, .int (nI (1))), (3, .int (nI (10)))]) rfl rfl rfl ?_
        refine ev_b bX6_whatIs_142_56 (lv' := [(5, .int (nI (k + 1))), (4, .int (nI ((fiTo S b tl T.tc k) ||| (1 <<< k)))), (7, .int (nI (k))), (6, .int (nI (S.kd b))), (0, .ref 0), (1, .int (nI (b))), (2, .int (nI (1))), (3, .int (nI (10)))]) (st' := []) (w2 := compW T S P ((kindS S b (S.kd b) k)) O2 ((chB (kindS S b (S.kd b) k) B1.li B1.gw B1.un B1.lc)) Q C R tl rf) rfl ?_
        refine ev_pick (lv' := [(5, .int (nI (k + 1))), (4, .int (nI ((fiTo S b tl T.tc k) ||| (1 <<< k)))), (0, .ref 0), (1, .int (nI (b))), (2, .int (nI (1))), (3, .int (nI (10)))]) rfl ?_
        rw [show nI (k + 1) = nI ((k + 1)) from congrArg nI (by omega)]
        rw [show nI ((fiTo S b tl T.tc k) ||| (1 <<< k)) = nI (fiTo S b tl T.tc (k + 1)) from congrArg nI (by rw [fiTo_s]; first | rw [if_pos h127] | rw [if_neg h127])]
        exact ih56 (k + 1) (by omega) ((kindS S b (S.kd b) k)) O2 ((chB (kindS S b (S.kd b) k) B1.li B1.gw B1.un B1.lc)) kind_kind
  refine ev_pick (lv' := [(5, .int (nI (0))), (4, .int (nI (0))), (0, .ref 0), (1, .int (nI (b))), (2, .int (nI (1))), (3, .int (nI (10)))]) rfl ?_
  exact L56 10 0 (by omega) S O B (fun _ _ => rfl)
theorem bX6_count_113_116 {l : Launch} {E : XE} : Snd l E mX6_count 113 116 (xs [x_iload 1, x_push (.int (nI 11))]) := Snd.cons (snd_iload_n (i := 1) dX6_count_113 rfl) (Snd.cons (snd_bipush (v := nI 11) dX6_count_114 (by decide)) Snd.nil)
theorem bX6_count_119_122 {l : Launch} {E : XE} : Snd l E mX6_count 119 122 (xs [x_iload 1, x_push (.int (nI 16))]) := Snd.cons (snd_iload_n (i := 1) dX6_count_119 rfl) (Snd.cons (snd_bipush (v := nI 16) dX6_count_120 (by decide)) Snd.nil)
theorem bX6_count_125_132 {l : Launch} {E : XE} : Snd l E mX6_count 125 132 (xs [x_aload 0, x_get 7 9, x_iload 1, x_push (.int (nI 10))]) := Snd.cons (snd_aload_n (i := 0) dX6_count_125 rfl) (Snd.cons (snd_get (ci := 7) (k := 9) dX6_count_126 rfl inX6 (by decide) tw_216) (Snd.cons (snd_iload_n (i := 1) dX6_count_129 rfl) (Snd.cons (snd_bipush (v := nI 10) dX6_count_130 (by decide)) Snd.nil)))
theorem bX6_count_134_139 {l : Launch} {E : XE} : Snd l E mX6_count 134 139 (xs [x_id]) := Snd.cons (snd_goto (tgt := 139) dX6_count_134 (by decide)) Snd.nil
set_option maxHeartbeats 4000000 in
set_option maxRecDepth 100000 in
theorem p_count_w11 {l : Launch} {E : XE} (T : TopN) (S P U : SaleN) (O : OutN) (B : BillN) (Q : SeaN) (C : ScrN) (R : PrtN) (tl rf : Nat → Nat)  (hS : SaleOK S) (hQ : Q.fd < 2147483648)  : MetE l E mX6_count (0) 0 0 [.ref 0, .int (nI (11))] (compW T S P U O B Q C R tl rf) (CP T S P (C.lt) (C.sz) tl rf (some (.int (nI (rf 1))))) := by
  refine MetE.of (by decide +kernel) (Nat.le_of_ble_eq_true rfl) ?_
  have hca := hS.1
  have hpw := pow_ca hS
  have hac := ac_lt hS
  
  refine ev_eq (lv' := [(0, .ref 0), (1, .int (nI (11)))]) (st' := []) (w' := compW T S P U O B Q C R tl rf) rfl rfl rfl ?_
  refine ev_b bX6_count_0_1 (lv' := [(0, .ref 0), (1, .int (nI (11)))]) (st' := [.int (nI (11))]) (w2 := compW T S P U O B Q C R tl rf) rfl ?_
  refine ev_tableOut (tgt := 113) dX6_count_1 (by decide) (by decide) ?_
  refine ev_b bX6_count_113_116 (lv' := [(0, .ref 0), (1, .int (nI (11)))]) (st' := [.int (nI (11)), .int (nI (11))]) (w2 := compW T S P U O B Q C R tl rf) rfl ?_
  refine ev_icmp_lt_n (tgt := 137) (by decide) (by decide) dX6_count_116 (by decide) (fun h116 => (by exfalso; omega)) (fun h116 => ?_)
  refine ev_b bX6_count_119_122 (lv' := [(0, .ref 0), (1, .int (nI (11)))]) (st' := [.int (nI (16)), .int (nI (11))]) (w2 := compW T S P U O B Q C R tl rf) rfl ?_
  refine ev_icmp_gt_n (tgt := 137) (by decide) (by decide) dX6_count_122 (by decide) (fun h122 => (by exfalso; omega)) (fun h122 => ?_)
  refine ev_b bX6_count_125_132 (lv' := [(0, .ref 0), (1, .int (nI (11)))]) (st' := [.int (nI (10)), .int (nI (11)), .ref 48]) (w2 := compW T S P U O B Q C R tl rf) rfl ?_
  refine ev_isub_n (by omega) dX6_count_132 ?_
  refine ev_iald_n (f := rf) dX6_count_133 rfl (by omega) (by decide) ?_
  refine ev_b bX6_count_134_139 (lv' := [(0, .ref 0), (1, .int (nI (11)))]) (st' := [.int (nI (rf (11 - 10)))]) (w2 := compW T S P U O B Q C R tl rf) rfl ?_
  exact ev_iret dX6_count_139 rfl (Nat.le_refl 49) (Nat.le_refl _) (Nat.le_refl _) ⟨rfl, _, _, _, _, _, _, rfl, hQ, rfl, rfl⟩
set_option maxHeartbeats 4000000 in
set_option maxRecDepth 100000 in
theorem p_count_w12 {l : Launch} {E : XE} (T : TopN) (S P U : SaleN) (O : OutN) (B : BillN) (Q : SeaN) (C : ScrN) (R : PrtN) (tl rf : Nat → Nat)  (hS : SaleOK S) (hQ : Q.fd < 2147483648)  : MetE l E mX6_count (0) 0 0 [.ref 0, .int (nI (12))] (compW T S P U O B Q C R tl rf) (CP T S P (C.lt) (C.sz) tl rf (some (.int (nI (rf 2))))) := by
  refine MetE.of (by decide +kernel) (Nat.le_of_ble_eq_true rfl) ?_
  have hca := hS.1
  have hpw := pow_ca hS
  have hac := ac_lt hS
  
  refine ev_eq (lv' := [(0, .ref 0), (1, .int (nI (12)))]) (st' := []) (w' := compW T S P U O B Q C R tl rf) rfl rfl rfl ?_
  refine ev_b bX6_count_0_1 (lv' := [(0, .ref 0), (1, .int (nI (12)))]) (st' := [.int (nI (12))]) (w2 := compW T S P U O B Q C R tl rf) rfl ?_
  refine ev_tableOut (tgt := 113) dX6_count_1 (by decide) (by decide) ?_
  refine ev_b bX6_count_113_116 (lv' := [(0, .ref 0), (1, .int (nI (12)))]) (st' := [.int (nI (11)), .int (nI (12))]) (w2 := compW T S P U O B Q C R tl rf) rfl ?_
  refine ev_icmp_lt_n (tgt := 137) (by decide) (by decide) dX6_count_116 (by decide) (fun h116 => (by exfalso; omega)) (fun h116 => ?_)
  refine ev_b bX6_count_119_122 (lv' := [(0, .ref 0), (1, .int (nI (12)))]) (st' := [.int (nI (16)), .int (nI (12))]) (w2 := compW T S P U O B Q C R tl rf) rfl ?_
  refine ev_icmp_gt_n (tgt := 137) (by decide) (by decide) dX6_count_122 (by decide) (fun h122 => (by exfalso; omega)) (fun h122 => ?_)
  refine ev_b bX6_count_125_132 (lv' := [(0, .ref 0), (1, .int (nI (12)))]) (st' := [.int (nI (10)), .int (nI (12)), .ref 48]) (w2 := compW T S P U O B Q C R tl rf) rfl ?_
  refine ev_isub_n (by omega) dX6_count_132 ?_
  refine ev_iald_n (f := rf) dX6_count_133 rfl (by omega) (by decide) ?_
  refine ev_b bX6_count_134_139 (lv' := [(0, .ref 0), (1, .int (nI (12)))]) (st' := [.int (nI (rf (12 - 10)))]) (w2 := compW T S P U O B Q C R tl rf) rfl ?_
  exact ev_iret dX6_count_139 rfl (Nat.le_refl 49) (Nat.le_refl _) (Nat.le_refl _) ⟨rfl, _, _, _, _, _, _, rfl, hQ, rfl, rfl⟩
set_option maxHeartbeats 4000000 in
set_option maxRecDepth 100000 in
theorem p_count_w13 {l : Launch} {E : XE} (T : TopN) (S P U : SaleN) (O : OutN) (B : BillN) (Q : SeaN) (C : ScrN) (R : PrtN) (tl rf : Nat → Nat)  (hS : SaleOK S) (hQ : Q.fd < 2147483648)  : MetE l E mX6_count (0) 0 0 [.ref 0, .int (nI (13))] (compW T S P U O B Q C R tl rf) (CP T S P (C.lt) (C.sz) tl rf (some (.int (nI (rf 3))))) := by
  refine MetE.of (by decide +kernel) (Nat.le_of_ble_eq_true rfl) ?_
  have hca := hS.1
  have hpw := pow_ca hS
  have hac := ac_lt hS
  
  refine ev_eq (lv' := [(0, .ref 0), (1, .int (nI (13)))]) (st' := []) (w' := compW T S P U O B Q C R tl rf) rfl rfl rfl ?_
  refine ev_b bX6_count_0_1 (lv' := [(0, .ref 0), (1, .int (nI (13)))]) (st' := [.int (nI (13))]) (w2 := compW T S P U O B Q C R tl rf) rfl ?_
  refine ev_tableOut (tgt := 113) dX6_count_1 (by decide) (by decide) ?_
  refine ev_b bX6_count_113_116 (lv' := [(0, .ref 0), (1, .int (nI (13)))]) (st' := [.int (nI (11)), .int (nI (13))]) (w2 := compW T S P U O B Q C R tl rf) rfl ?_
  refine ev_icmp_lt_n (tgt := 137) (by decide) (by decide) dX6_count_116 (by decide) (fun h116 => (by exfalso; omega)) (fun h116 => ?_)
  refine ev_b bX6_count_119_122 (lv' := [(0, .ref 0), (1, .int (nI (13)))]) (st' := [.int (nI (16)), .int (nI (13))]) (w2 := compW T S P U O B Q C R tl rf) rfl ?_
  refine ev_icmp_gt_n (tgt := 137) (by decide) (by decide) dX6_count_122 (by decide) (fun h122 => (by exfalso; omega)) (fun h122 => ?_)
  refine ev_b bX6_count_125_132 (lv' := [(0, .ref 0), (1, .int (nI (13)))]) (st' := [.int (nI (10)), .int (nI (13)), .ref 48]) (w2 := compW T S P U O B Q C R tl rf) rfl ?_
  refine ev_isub_n (by omega) dX6_count_132 ?_
  refine ev_iald_n (f := rf) dX6_count_133 rfl (by omega) (by decide) ?_
  refine ev_b bX6_count_134_139 (lv' := [(0, .ref 0), (1, .int (nI (13)))]) (st' := [.int (nI (rf (13 - 10)))]) (w2 := compW T S P U O B Q C R tl rf) rfl ?_
  exact ev_iret dX6_count_139 rfl (Nat.le_refl 49) (Nat.le_refl _) (Nat.le_refl _) ⟨rfl, _, _, _, _, _, _, rfl, hQ, rfl, rfl⟩
set_option maxHeartbeats 4000000 in
set_option maxRecDepth 100000 in
theorem p_count_w14 {l : Launch} {E : XE} (T : TopN) (S P U : SaleN) (O : OutN) (B : BillN) (Q : SeaN) (C : ScrN) (R : PrtN) (tl rf : Nat → Nat)  (hS : SaleOK S) (hQ : Q.fd < 2147483648)  : MetE l E mX6_count (0) 0 0 [.ref 0, .int (nI (14))] (compW T S P U O B Q C R tl rf) (CP T S P (C.lt) (C.sz) tl rf (some (.int (nI (rf 4))))) := by
  refine MetE.of (by decide +kernel) (Nat.le_of_ble_eq_true rfl) ?_
  have hca := hS.1
  have hpw := pow_ca hS
  have hac := ac_lt hS
  
  refine ev_eq (lv' := [(0, .ref 0), (1, .int (nI (14)))]) (st' := []) (w' := compW T S P U O B Q C R tl rf) rfl rfl rfl ?_
  refine ev_b bX6_count_0_1 (lv' := [(0, .ref 0), (1, .int (nI (14)))]) (st' := [.int (nI (14))]) (w2 := compW T S P U O B Q C R tl rf) rfl ?_
  refine ev_tableOut (tgt := 113) dX6_count_1 (by decide) (by decide) ?_
  refine ev_b bX6_count_113_116 (lv' := [(0, .ref 0), (1, .int (nI (14)))]) (st' := [.int (nI (11)), .int (nI (14))]) (w2 := compW T S P U O B Q C R tl rf) rfl ?_
  refine ev_icmp_lt_n (tgt := 137) (by decide) (by decide) dX6_count_116 (by decide) (fun h116 => (by exfalso; omega)) (fun h116 => ?_)
  refine ev_b bX6_count_119_122 (lv' := [(0, .ref 0), (1, .int (nI (14)))]) (st' := [.int (nI (16)), .int (nI (14))]) (w2 := compW T S P U O B Q C R tl rf) rfl ?_
  refine ev_icmp_gt_n (tgt := 137) (by decide) (by decide) dX6_count_122 (by decide) (fun h122 => (by exfalso; omega)) (fun h122 => ?_)
  refine ev_b bX6_count_125_132 (lv' := [(0, .ref 0), (1, .int (nI (14)))]) (st' := [.int (nI (10)), .int (nI (14)), .ref 48]) (w2 := compW T S P U O B Q C R tl rf) rfl ?_
  refine ev_isub_n (by omega) dX6_count_132 ?_
  refine ev_iald_n (f := rf) dX6_count_133 rfl (by omega) (by decide) ?_
  refine ev_b bX6_count_134_139 (lv' := [(0, .ref 0), (1, .int (nI (14)))]) (st' := [.int (nI (rf (14 - 10)))]) (w2 := compW T S P U O B Q C R tl rf) rfl ?_
  exact ev_iret dX6_count_139 rfl (Nat.le_refl 49) (Nat.le_refl _) (Nat.le_refl _) ⟨rfl, _, _, _, _, _, _, rfl, hQ, rfl, rfl⟩
set_option maxHeartbeats 4000000 in
set_option maxRecDepth 100000 in
theorem p_count_w15 {l : Launch} {E : XE} (T : TopN) (S P U : SaleN) (O : OutN) (B : BillN) (Q : SeaN) (C : ScrN) (R : PrtN) (tl rf : Nat → Nat)  (hS : SaleOK S) (hQ : Q.fd < 2147483648)  : MetE l E mX6_count (0) 0 0 [.ref 0, .int (nI (15))] (compW T S P U O B Q C R tl rf) (CP T S P (C.lt) (C.sz) tl rf (some (.int (nI (rf 5))))) := by
  refine MetE.of (by decide +kernel) (Nat.le_of_ble_eq_true rfl) ?_
  have hca := hS.1
  have hpw := pow_ca hS
  have hac := ac_lt hS
  
  refine ev_eq (lv' := [(0, .ref 0), (1, .int (nI (15)))]) (st' := []) (w' := compW T S P U O B Q C R tl rf) rfl rfl rfl ?_
  refine ev_b bX6_count_0_1 (lv' := [(0, .ref 0), (1, .int (nI (15)))]) (st' := [.int (nI (15))]) (w2 := compW T S P U O B Q C R tl rf) rfl ?_
  refine ev_tableOut (tgt := 113) dX6_count_1 (by decide) (by decide) ?_
  refine ev_b bX6_count_113_116 (lv' := [(0, .ref 0), (1, .int (nI (15)))]) (st' := [.int (nI (11)), .int (nI (15))]) (w2 := compW T S P U O B Q C R tl rf) rfl ?_
  refine ev_icmp_lt_n (tgt := 137) (by decide) (by decide) dX6_count_116 (by decide) (fun h116 => (by exfalso; omega)) (fun h116 => ?_)
  refine ev_b bX6_count_119_122 (lv' := [(0, .ref 0), (1, .int (nI (15)))]) (st' := [.int (nI (16)), .int (nI (15))]) (w2 := compW T S P U O B Q C R tl rf) rfl ?_
  refine ev_icmp_gt_n (tgt := 137) (by decide) (by decide) dX6_count_122 (by decide) (fun h122 => (by exfalso; omega)) (fun h122 => ?_)
  refine ev_b bX6_count_125_132 (lv' := [(0, .ref 0), (1, .int (nI (15)))]) (st' := [.int (nI (10)), .int (nI (15)), .ref 48]) (w2 := compW T S P U O B Q C R tl rf) rfl ?_
  refine ev_isub_n (by omega) dX6_count_132 ?_
  refine ev_iald_n (f := rf) dX6_count_133 rfl (by omega) (by decide) ?_
  refine ev_b bX6_count_134_139 (lv' := [(0, .ref 0), (1, .int (nI (15)))]) (st' := [.int (nI (rf (15 - 10)))]) (w2 := compW T S P U O B Q C R tl rf) rfl ?_
  exact ev_iret dX6_count_139 rfl (Nat.le_refl 49) (Nat.le_refl _) (Nat.le_refl _) ⟨rfl, _, _, _, _, _, _, rfl, hQ, rfl, rfl⟩
set_option maxHeartbeats 4000000 in
set_option maxRecDepth 100000 in
theorem p_count_w16 {l : Launch} {E : XE} (T : TopN) (S P U : SaleN) (O : OutN) (B : BillN) (Q : SeaN) (C : ScrN) (R : PrtN) (tl rf : Nat → Nat)  (hS : SaleOK S) (hQ : Q.fd < 2147483648)  : MetE l E mX6_count (0) 0 0 [.ref 0, .int (nI (16))] (compW T S P U O B Q C R tl rf) (CP T S P (C.lt) (C.sz) tl rf (some (.int (nI (rf 6))))) := by
  refine MetE.of (by decide +kernel) (Nat.le_of_ble_eq_true rfl) ?_
  have hca := hS.1
  have hpw := pow_ca hS
  have hac := ac_lt hS
  
  refine ev_eq (lv' := [(0, .ref 0), (1, .int (nI (16)))]) (st' := []) (w' := compW T S P U O B Q C R tl rf) rfl rfl rfl ?_
  refine ev_b bX6_count_0_1 (lv' := [(0, .ref 0), (1, .int (nI (16)))]) (st' := [.int (nI (16))]) (w2 := compW T S P U O B Q C R tl rf) rfl ?_
  refine ev_tableOut (tgt := 113) dX6_count_1 (by decide) (by decide) ?_
  refine ev_b bX6_count_113_116 (lv' := [(0, .ref 0), (1, .int (nI (16)))]) (st' := [.int (nI (11)), .int (nI (16))]) (w2 := compW T S P U O B Q C R tl rf) rfl ?_
  refine ev_icmp_lt_n (tgt := 137) (by decide) (by decide) dX6_count_116 (by decide) (fun h116 => (by exfalso; omega)) (fun h116 => ?_)
  refine ev_b bX6_count_119_122 (lv' := [(0, .ref 0), (1, .int (nI (16)))]) (st' := [.int (nI (16)), .int (nI (16))]) (w2 := compW T S P U O B Q C R tl rf) rfl ?_
  refine ev_icmp_gt_n (tgt := 137) (by decide) (by decide) dX6_count_122 (by decide) (fun h122 => (by exfalso; omega)) (fun h122 => ?_)
  refine ev_b bX6_count_125_132 (lv' := [(0, .ref 0), (1, .int (nI (16)))]) (st' := [.int (nI (10)), .int (nI (16)), .ref 48]) (w2 := compW T S P U O B Q C R tl rf) rfl ?_
  refine ev_isub_n (by omega) dX6_count_132 ?_
  refine ev_iald_n (f := rf) dX6_count_133 rfl (by omega) (by decide) ?_
  refine ev_b bX6_count_134_139 (lv' := [(0, .ref 0), (1, .int (nI (16)))]) (st' := [.int (nI (rf (16 - 10)))]) (w2 := compW T S P U O B Q C R tl rf) rfl ?_
  exact ev_iret dX6_count_139 rfl (Nat.le_refl 49) (Nat.le_refl _) (Nat.le_refl _) ⟨rfl, _, _, _, _, _, _, rfl, hQ, rfl, rfl⟩
theorem bX6_count_137_139 {l : Launch} {E : XE} : Snd l E mX6_count 137 139 (xs [x_push (.int (-9))]) := Snd.cons (snd_bipush (v := -9) dX6_count_137 (by decide)) Snd.nil
set_option maxHeartbeats 4000000 in
set_option maxRecDepth 100000 in
theorem p_count_oth1 {l : Launch} {E : XE} (T : TopN) (S P U : SaleN) (O : OutN) (B : BillN) (Q : SeaN) (C : ScrN) (R : PrtN) (tl rf : Nat → Nat) (z : Int) (hS : SaleOK S) (hQ : Q.fd < 2147483648) (rz : -2147483648 ≤ z ∧ z < 2147483648) (h : z < 0 ∨ (6 < z ∧ z < 11)) : MetE l E mX6_count (0) 0 0 [.ref 0, .int (zI (z))] (compW T S P U O B Q C R tl rf) (CP T S P (C.lt) (C.sz) tl rf (some (.int (-9)))) := by
  refine MetE.of (by decide +kernel) (Nat.le_of_ble_eq_true rfl) ?_
  have hca := hS.1
  have hpw := pow_ca hS
  have hac := ac_lt hS
  
  refine ev_eq (lv' := [(0, .ref 0), (1, .int (zI (z)))]) (st' := []) (w' := compW T S P U O B Q C R tl rf) rfl rfl rfl ?_
  refine ev_b bX6_count_0_1 (lv' := [(0, .ref 0), (1, .int (zI (z)))]) (st' := [.int (zI (z))]) (w2 := compW T S P U O B Q C R tl rf) rfl ?_
  refine ev_tableOut (tgt := 113) dX6_count_1 (by rw [zI_toInt (by omega) (by omega)]; omega) (by decide) ?_
  refine ev_b bX6_count_113_116 (lv' := [(0, .ref 0), (1, .int (zI (z)))]) (st' := [.int (nI (11)), .int (zI (z))]) (w2 := compW T S P U O B Q C R tl rf) rfl ?_
  refine ev_top (y := zI (((11 : Nat) : Int))) (zI_nat _).symm ?_
  refine ev_icmp_lt_z (tgt := 137) (by constructor <;> omega) (by constructor <;> omega) dX6_count_116 (by decide) (fun h116 => ?_) (fun h116 => (by exfalso; omega))
  refine ev_b bX6_count_137_139 (lv' := [(0, .ref 0), (1, .int (zI (z)))]) (st' := [.int (-9)]) (w2 := compW T S P U O B Q C R tl rf) rfl ?_
  exact ev_iret dX6_count_139 rfl (Nat.le_refl 49) (Nat.le_refl _) (Nat.le_refl _) ⟨rfl, _, _, _, _, _, _, rfl, hQ, rfl, rfl⟩
set_option maxHeartbeats 4000000 in
set_option maxRecDepth 100000 in
theorem p_count_oth2 {l : Launch} {E : XE} (T : TopN) (S P U : SaleN) (O : OutN) (B : BillN) (Q : SeaN) (C : ScrN) (R : PrtN) (tl rf : Nat → Nat) (z : Int) (hS : SaleOK S) (hQ : Q.fd < 2147483648) (rz : -2147483648 ≤ z ∧ z < 2147483648) (h : 16 < z) : MetE l E mX6_count (0) 0 0 [.ref 0, .int (zI (z))] (compW T S P U O B Q C R tl rf) (CP T S P (C.lt) (C.sz) tl rf (some (.int (-9)))) := by
  refine MetE.of (by decide +kernel) (Nat.le_of_ble_eq_true rfl) ?_
  have hca := hS.1
  have hpw := pow_ca hS
  have hac := ac_lt hS
  
  refine ev_eq (lv' := [(0, .ref 0), (1, .int (zI (z)))]) (st' := []) (w' := compW T S P U O B Q C R tl rf) rfl rfl rfl ?_
  refine ev_b bX6_count_0_1 (lv' := [(0, .ref 0), (1, .int (zI (z)))]) (st' := [.int (zI (z))]) (w2 := compW T S P U O B Q C R tl rf) rfl ?_
  refine ev_tableOut (tgt := 113) dX6_count_1 (by rw [zI_toInt (by omega) (by omega)]; omega) (by decide) ?_
  refine ev_b bX6_count_113_116 (lv' := [(0, .ref 0), (1, .int (zI (z)))]) (st' := [.int (nI (11)), .int (zI (z))]) (w2 := compW T S P U O B Q C R tl rf) rfl ?_
  refine ev_top (y := zI (((11 : Nat) : Int))) (zI_nat _).symm ?_
  refine ev_icmp_lt_z (tgt := 137) (by constructor <;> omega) (by constructor <;> omega) dX6_count_116 (by decide) (fun h116 => (by exfalso; omega)) (fun h116 => ?_)
  refine ev_b bX6_count_119_122 (lv' := [(0, .ref 0), (1, .int (zI (z)))]) (st' := [.int (nI (16)), .int (zI (z))]) (w2 := compW T S P U O B Q C R tl rf) rfl ?_
  refine ev_top (y := zI (((16 : Nat) : Int))) (zI_nat _).symm ?_
  refine ev_icmp_gt_z (tgt := 137) (by constructor <;> omega) (by constructor <;> omega) dX6_count_122 (by decide) (fun h122 => ?_) (fun h122 => (by exfalso; omega))
  refine ev_b bX6_count_137_139 (lv' := [(0, .ref 0), (1, .int (zI (z)))]) (st' := [.int (-9)]) (w2 := compW T S P U O B Q C R tl rf) rfl ?_
  exact ev_iret dX6_count_139 rfl (Nat.le_refl 49) (Nat.le_refl _) (Nat.le_refl _) ⟨rfl, _, _, _, _, _, _, rfl, hQ, rfl, rfl⟩
theorem bX6_gain_7_12 {l : Launch} {E : XE} : Snd l E mX6_gain 7 12 (xs [x_push (.int (-100000)), x_aload 0, x_push (.int (-1))]) := Snd.cons (snd_ldcw (v := -100000) dX6_gain_7 tw_779) (Snd.cons (snd_aload_n (i := 0) dX6_gain_10 rfl) (Snd.cons (snd_iconst (v := -1) dX6_gain_11 (by decide)) Snd.nil))
theorem bX6_gain_15_16 {l : Launch} {E : XE} : Snd l E mX6_gain 15 16 (xs [x_i2 (fun x y => x + y)]) := Snd.cons (snd_iadd dX6_gain_15) Snd.nil
set_option maxHeartbeats 4000000 in
set_option maxRecDepth 100000 in
theorem p_gain_1 {l : Launch} {E : XE} (T : TopN) (S P U : SaleN) (O : OutN) (B : BillN) (Q : SeaN) (C : ScrN) (R : PrtN) (tl rf : Nat → Nat) (z1 : Int) (hS : SaleOK S) (hQ : Q.fd < 2147483648) (rz1 : -2147483648 ≤ z1 ∧ z1 < 2147483648) (h : ¬ (0 ≤ z1 ∧ z1 < 5)) : MetE l E mX6_gain (1) 0 0 [.ref 0, .int (zI (z1))] (compW T S P U O B Q C R tl rf) (CP T S P (C.lt) (C.sz) tl (up rf 1 (rf 1 + 1)) (some (.int (-100001)))) := by
  refine MetE.of (by decide +kernel) (Nat.le_of_ble_eq_true rfl) ?_
  have hca := hS.1
  have hpw := pow_ca hS
  have hac := ac_lt hS
  
  refine ev_eq (lv' := [(0, .ref 0), (1, .int (zI (z1)))]) (st' := []) (w' := compW T S P U O B Q C R tl rf) rfl rfl rfl ?_
  refine ev_b bX6_gain_0_1 (lv' := [(0, .ref 0), (1, .int (zI (z1)))]) (st' := [.int (zI (z1))]) (w2 := compW T S P U O B Q C R tl rf) rfl ?_
  refine ev_callS (Yc := mX6_isBidder) [] dX6_gain_1 tw_437 kX6_isBidder (m_X6_isBidder_z z1 rz1) rfl (st := []) rfl (by decide) rfl (by decide) (Nat.le_of_ble_eq_true rfl) (Nat.le_refl _) (Nat.le_refl _) (fun r w' h => by obtain ⟨-, rfl⟩ := h; exact Nat.le_of_ble_eq_true rfl) ?_
  rintro _ _ ⟨rfl, rfl⟩
  refine ev_eq (lv' := [(0, .ref 0), (1, .int (zI (z1)))]) (st' := [.int (nI (b01 (0 ≤ z1 ∧ z1 < 5)))]) (w' := compW T S P U O B Q C R tl rf) rfl rfl rfl ?_
  refine ev_ifne_b (tgt := 17) dX6_gain_4 (by decide) (fun h4 => (by exfalso; omega)) (fun h4 => ?_)
  refine ev_b bX6_gain_7_12 (lv' := [(0, .ref 0), (1, .int (zI (z1)))]) (st' := [.int (-1), .ref 0, .int (-100000)]) (w2 := compW T S P U O B Q C R tl rf) rfl ?_
  refine ev_callV (Yc := mX6_refuse) (rng 0 49) dX6_gain_12 tw_248 kX6_refuse (m_X6_refuse_1 T S P U O B Q C R tl rf) rfl (st := [.int (-100000)]) rfl rfl rfl (by decide) comp_hw (by decide) (Nat.le_of_ble_eq_true rfl) (Nat.le_refl _) (Nat.le_refl _) (fun r w' h => by obtain ⟨-, rfl⟩ := h; exact Nat.le_of_ble_eq_true rfl) ?_
  rintro _ _ ⟨rfl, rfl⟩
  refine ev_eq (lv' := [(0, .ref 0), (1, .int (zI (z1)))]) (st' := [.int (-1), .int (-100000)]) (w' := compW T S P U O B Q C R tl ((up rf 1 (rf 1 + 1)))) rfl rfl comp_xp ?_
  refine ev_b bX6_gain_15_16 (lv' := [(0, .ref 0), (1, .int (zI (z1)))]) (st' := [.int ((-100000) + (-1))]) (w2 := compW T S P U O B Q C R tl ((up rf 1 (rf 1 + 1)))) rfl ?_
  exact ev_iret dX6_gain_16 rfl (Nat.le_refl 49) (Nat.le_refl _) (Nat.le_refl _) ⟨rfl, _, _, _, _, _, _, rfl, hQ, rfl, rfl⟩
