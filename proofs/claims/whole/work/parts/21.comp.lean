/-! ===== the whole component: its own object, three sales, the scratch rows ===== -/
abbrev TopN : Type := Nat × Nat
abbrev TopN.tc (T : TopN) : Nat := T.1
abbrev TopN.hp (T : TopN) : Nat := T.2
def topW (_ : Nat) (T : TopN) : AW := [.inr (7, [.ref 1, .ref 9, .ref 17, .ref 25, .ref 30, .ref 35, .ref 38, .ref 45, .ref 47, .ref 48, .int (nI T.tc), .int (nI T.hp)])]
abbrev ScrN : Type := (Nat → Nat) × (Nat → Nat) × (Nat → Int) × (Nat → Int) × (Nat → Int) × (Nat → Int) × Nat × Nat × Int × Nat
abbrev ScrN.lt (C : ScrN) : Nat → Nat := C.1
abbrev ScrN.st (C : ScrN) : Nat → Nat := C.2.1
abbrev ScrN.wd (C : ScrN) : Nat → Int := C.2.2.1
abbrev ScrN.f1 (C : ScrN) : Nat → Int := C.2.2.2.1
abbrev ScrN.f2 (C : ScrN) : Nat → Int := C.2.2.2.2.1
abbrev ScrN.f3 (C : ScrN) : Nat → Int := C.2.2.2.2.2.1
abbrev ScrN.sz (C : ScrN) : Nat := C.2.2.2.2.2.2.1
abbrev ScrN.pl (C : ScrN) : Nat := C.2.2.2.2.2.2.2.1
abbrev ScrN.fa (C : ScrN) : Int := C.2.2.2.2.2.2.2.2.1
abbrev ScrN.sn (C : ScrN) : Nat := C.2.2.2.2.2.2.2.2.2
def scrW (b : Nat) (C : ScrN) : AW := [.inr (5, [.ref (b + 1), .ref (b + 2), .ref (b + 3), .ref (b + 4), .ref (b + 5), .ref (b + 6), .int (nI C.sz), .int (nI C.pl), .int (zI C.fa), .int (nI C.sn)]), .inl (0, 96, .inl (aI C.lt)), .inl (0, 16, .inl (aI C.st)), .inl (0, 16, .inl (aZ C.wd)), .inl (0, 16, .inl (aZ C.f1)), .inl (0, 16, .inl (aZ C.f2)), .inl (0, 16, .inl (aZ C.f3))]
abbrev PrtN : Type := (Nat → Nat) × Nat
abbrev PrtN.sg (R : PrtN) : Nat → Nat := R.1
abbrev PrtN.ln (R : PrtN) : Nat := R.2
def prtW (b : Nat) (R : PrtN) : AW := [.inr (3, [.ref (b + 1), .int (nI R.ln)]), .inl (0, 64, .inl (aI R.sg))]
def row5 (_ : Nat) (f : Nat → Nat) : AW := [.inl (0, 5, .inl (aI f))]
def row7 (_ : Nat) (f : Nat → Nat) : AW := [.inl (0, 7, .inl (aI f))]
def compW (T : TopN) (S P U : SaleN) (O : OutN) (B : BillN) (Q : SeaN) (C : ScrN) (R : PrtN) (tl rf : Nat → Nat) : AW :=
  topW 0 T ++ (saleW 1 S ++ (saleW 9 P ++ (saleW 17 U ++ (outW 25 O ++ (billW 30 B ++ (seaW 35 Q ++ (scrW 38 C ++ (prtW 45 R ++ (row5 47 tl ++ row7 48 rf)))))))))

theorem hw_comp__25_1 {x0 : TopN} {x1 : SaleN} {x2 : SaleN} {x3 : SaleN} {x4 : OutN} {x5 : BillN} {x6 : SeaN} {x7 : ScrN} {x8 : PrtN} {x9 : Nat → Nat} {x10 : Nat → Nat} : ([25, 26, 27, 28, 29, 1, 2, 3, 4, 5, 6, 7, 8] : List Nat).map (fun i => (compW x0 x1 x2 x3 x4 x5 x6 x7 x8 x9 x10)[i]?) = (outW 0 x4 ++ saleW 5 x1).map (fun e => some (xr ([25, 26, 27, 28, 29, 1, 2, 3, 4, 5, 6, 7, 8] : List Nat) (compW x0 x1 x2 x3 x4 x5 x6 x7 x8 x9 x10).length e)) := rfl
theorem xp_comp__25_1 {x0 : TopN} {x1 : SaleN} {x2 : SaleN} {x3 : SaleN} {x4 : OutN} {x5 : BillN} {x6 : SeaN} {x7 : ScrN} {x8 : PrtN} {x9 : Nat → Nat} {x10 : Nat → Nat} {y0 : OutN} {y1 : SaleN} : xput ([25, 26, 27, 28, 29, 1, 2, 3, 4, 5, 6, 7, 8] : List Nat) (compW x0 x1 x2 x3 x4 x5 x6 x7 x8 x9 x10).length (compW x0 x1 x2 x3 x4 x5 x6 x7 x8 x9 x10) ([25, 26, 27, 28, 29, 1, 2, 3, 4, 5, 6, 7, 8] : List Nat) (outW 0 y0 ++ saleW 5 y1) = compW x0 y1 x2 x3 y0 x5 x6 x7 x8 x9 x10 := by
  have e0 : xput ([25, 26, 27, 28, 29, 1, 2, 3, 4, 5, 6, 7, 8] : List Nat) (compW x0 x1 x2 x3 x4 x5 x6 x7 x8 x9 x10).length (compW x0 x1 x2 x3 x4 x5 x6 x7 x8 x9 x10) ([25, 26, 27, 28, 29] : List Nat) (outW 0 y0) = compW x0 x1 x2 x3 y0 x5 x6 x7 x8 x9 x10 := xput_blk (topW 0 x0 ++ (saleW 1 x1 ++ (saleW 9 x2 ++ (saleW 17 x3)))) (outW 25 x4) (billW 30 x5 ++ (seaW 35 x6 ++ (scrW 38 x7 ++ (prtW 45 x8 ++ (row5 47 x9 ++ (row7 48 x10)))))) (outW 0 y0) rfl
  have e1 : xput ([25, 26, 27, 28, 29, 1, 2, 3, 4, 5, 6, 7, 8] : List Nat) (compW x0 x1 x2 x3 x4 x5 x6 x7 x8 x9 x10).length (compW x0 x1 x2 x3 y0 x5 x6 x7 x8 x9 x10) ([1, 2, 3, 4, 5, 6, 7, 8] : List Nat) (saleW 5 y1) = compW x0 y1 x2 x3 y0 x5 x6 x7 x8 x9 x10 := xput_blk (topW 0 x0) (saleW 1 x1) (saleW 9 x2 ++ (saleW 17 x3 ++ (outW 25 y0 ++ (billW 30 x5 ++ (seaW 35 x6 ++ (scrW 38 x7 ++ (prtW 45 x8 ++ (row5 47 x9 ++ (row7 48 x10))))))))) (saleW 5 y1) rfl
  refine (xput_app ([25, 26, 27, 28, 29] : List Nat) ([1, 2, 3, 4, 5, 6, 7, 8] : List Nat) _ (outW 0 y0) (saleW 5 y1) rfl).trans ?_
  exact (congrArg (fun t => xput ([25, 26, 27, 28, 29, 1, 2, 3, 4, 5, 6, 7, 8] : List Nat) (compW x0 x1 x2 x3 x4 x5 x6 x7 x8 x9 x10).length t ([1, 2, 3, 4, 5, 6, 7, 8] : List Nat) (saleW 5 y1)) e0).trans e1
theorem hw_comp__25 {x0 : TopN} {x1 : SaleN} {x2 : SaleN} {x3 : SaleN} {x4 : OutN} {x5 : BillN} {x6 : SeaN} {x7 : ScrN} {x8 : PrtN} {x9 : Nat → Nat} {x10 : Nat → Nat} : ([25, 26, 27, 28, 29] : List Nat).map (fun i => (compW x0 x1 x2 x3 x4 x5 x6 x7 x8 x9 x10)[i]?) = (outW 0 x4).map (fun e => some (xr ([25, 26, 27, 28, 29] : List Nat) (compW x0 x1 x2 x3 x4 x5 x6 x7 x8 x9 x10).length e)) := rfl
theorem xp_comp__25 {x0 : TopN} {x1 : SaleN} {x2 : SaleN} {x3 : SaleN} {x4 : OutN} {x5 : BillN} {x6 : SeaN} {x7 : ScrN} {x8 : PrtN} {x9 : Nat → Nat} {x10 : Nat → Nat} {y0 : OutN} : xput ([25, 26, 27, 28, 29] : List Nat) (compW x0 x1 x2 x3 x4 x5 x6 x7 x8 x9 x10).length (compW x0 x1 x2 x3 x4 x5 x6 x7 x8 x9 x10) ([25, 26, 27, 28, 29] : List Nat) (outW 0 y0) = compW x0 x1 x2 x3 y0 x5 x6 x7 x8 x9 x10 := by
  have e0 : xput ([25, 26, 27, 28, 29] : List Nat) (compW x0 x1 x2 x3 x4 x5 x6 x7 x8 x9 x10).length (compW x0 x1 x2 x3 x4 x5 x6 x7 x8 x9 x10) ([25, 26, 27, 28, 29] : List Nat) (outW 0 y0) = compW x0 x1 x2 x3 y0 x5 x6 x7 x8 x9 x10 := xput_blk (topW 0 x0 ++ (saleW 1 x1 ++ (saleW 9 x2 ++ (saleW 17 x3)))) (outW 25 x4) (billW 30 x5 ++ (seaW 35 x6 ++ (scrW 38 x7 ++ (prtW 45 x8 ++ (row5 47 x9 ++ (row7 48 x10)))))) (outW 0 y0) rfl
  exact e0
theorem bX6_winnersOf_0_5 {l : Launch} {E : XE} : Snd l E mX6_winnersOf 0 5 (xs [x_aload 0, x_get 7 3, x_aload 1]) := Snd.cons (snd_aload_n (i := 0) dX6_winnersOf_0 rfl) (Snd.cons (snd_get (ci := 7) (k := 3) dX6_winnersOf_1 rfl inX6 (by decide) tw_210) (Snd.cons (snd_aload_n (i := 1) dX6_winnersOf_4 rfl) Snd.nil))
theorem bX6_winnersOf_8_15 {l : Launch} {E : XE} : Snd l E mX6_winnersOf 8 15 (xs [x_aload 0, x_get 7 3, x_push (.int (nI 1023))]) := Snd.cons (snd_aload_n (i := 0) dX6_winnersOf_8 rfl) (Snd.cons (snd_get (ci := 7) (k := 3) dX6_winnersOf_9 rfl inX6 (by decide) tw_210) (Snd.cons (snd_sipush (v := nI 1023) dX6_winnersOf_12 (by decide)) Snd.nil))
set_option maxHeartbeats 4000000 in
set_option maxRecDepth 100000 in
theorem m_X6_winnersOf_S {l : Launch} {E : XE} (T : TopN) (S P U : SaleN) (O : OutN) (B : BillN) (Q : SeaN) (C : ScrN) (R : PrtN) (tl rf : Nat → Nat) (hS : SaleOK S) : MetE l E mX6_winnersOf (4) 0 0 [.ref 0, .ref 1] (compW T S P U O B Q C R tl rf) (fun r w' => r = some (.int (nI (winB S 1023))) ∧ ∃ O' : OutN, w' = compW T S P U (O') B Q C R tl rf ∧ KeysL O' (keysOf S (packsN S S.ca))) := by
  refine MetE.of (by decide +kernel) (Nat.le_of_ble_eq_true rfl) ?_
  have hKx := wK_spec hS 1023
  obtain ⟨-, -, -, -, -, -, -, -, hk1, hk2, -⟩ := hKx
  refine ev_eq (lv' := [(0, .ref 0), (1, .ref 1)]) (st' := []) (w' := compW T S P U O B Q C R tl rf) rfl rfl rfl ?_
  refine ev_b bX6_winnersOf_0_5 (lv' := [(0, .ref 0), (1, .ref 1)]) (st' := [.ref 1, .ref 25]) (w2 := compW T S P U O B Q C R tl rf) rfl ?_
  refine ev_callVN (Yc := mX1_gather) [25, 26, 27, 28, 29, 1, 2, 3, 4, 5, 6, 7, 8] dX6_winnersOf_5 tn_497 kX1_gather (m_X1_gather O S hS) rfl (st := []) rfl rfl rfl (by decide) hw_comp__25_1 (by decide) (Nat.le_of_ble_eq_true rfl) (Nat.le_refl _) (Nat.le_refl _) (fun r w' h => by obtain ⟨-, O', rfl, -⟩ := h; exact Nat.le_of_ble_eq_true rfl) ?_
  rintro _ _ ⟨rfl, O1, rfl, hK1⟩
  refine ev_eq (lv' := [(0, .ref 0), (1, .ref 1)]) (st' := []) (w' := compW T S P U O1 B Q C R tl rf) rfl rfl xp_comp__25_1 ?_
  refine ev_b bX6_winnersOf_8_15 (lv' := [(0, .ref 0), (1, .ref 1)]) (st' := [.int (nI (1023)), .ref 25]) (w2 := compW T S P U O1 B Q C R tl rf) rfl ?_
  refine ev_callVN (Yc := mX1_first) [25, 26, 27, 28, 29] dX6_winnersOf_15 tn_543 kX1_first (m_X1_first O1 1023 (keys_ok hS hK1)) rfl (st := []) rfl rfl rfl (by decide) hw_comp__25 (by decide) (Nat.le_of_ble_eq_true rfl) (Nat.le_refl _) (Nat.le_refl _) (fun r w' h => by obtain ⟨-, rfl⟩ := h; exact Nat.le_of_ble_eq_true rfl) ?_
  rintro _ _ ⟨rfl, rfl⟩
  refine ev_eq (lv' := [(0, .ref 0), (1, .ref 1)]) (st' := [.int (nI (firstTo O1.ke 1023 O1.sz))]) (w' := compW T S P U O1 B Q C R tl rf) rfl rfl xp_comp__25 ?_
  refine ev_top (y := (nI (wK S 1023))) (congrArg nI (show firstTo O1.ke 1023 O1.sz = wK S 1023 from by exact first_L hK1 _)) ?_
  refine ev_callSN (Yc := mX1_bidsIn) [] dX6_winnersOf_18 tn_551 kX1_bidsIn (m_X1_bidsIn (wK S 1023)) rfl (st := []) rfl (by decide) rfl (by decide) (Nat.le_of_ble_eq_true rfl) (Nat.le_refl _) (Nat.le_refl _) (fun r w' h => by obtain ⟨-, rfl⟩ := h; exact Nat.le_of_ble_eq_true rfl) ?_
  rintro _ _ ⟨rfl, rfl⟩
  refine ev_eq (lv' := [(0, .ref 0), (1, .ref 1)]) (st' := [.int (nI (bidsN (wK S 1023)))]) (w' := compW T S P U O1 B Q C R tl rf) rfl rfl rfl ?_
  refine ev_top (y := (nI (winB S 1023))) (congrArg nI (show bidsN (wK S 1023) = winB S 1023 from by rfl)) ?_
  exact ev_iret dX6_winnersOf_21 rfl (Nat.le_refl 49) (Nat.le_refl _) (Nat.le_refl _) ⟨rfl, _, rfl, hK1⟩
theorem bX6_worthOf_0_5 {l : Launch} {E : XE} : Snd l E mX6_worthOf 0 5 (xs [x_aload 0, x_get 7 3, x_aload 1]) := Snd.cons (snd_aload_n (i := 0) dX6_worthOf_0 rfl) (Snd.cons (snd_get (ci := 7) (k := 3) dX6_worthOf_1 rfl inX6 (by decide) tw_210) (Snd.cons (snd_aload_n (i := 1) dX6_worthOf_4 rfl) Snd.nil))
theorem bX6_worthOf_8_15 {l : Launch} {E : XE} : Snd l E mX6_worthOf 8 15 (xs [x_aload 0, x_get 7 3, x_push (.int (nI 1023))]) := Snd.cons (snd_aload_n (i := 0) dX6_worthOf_8 rfl) (Snd.cons (snd_get (ci := 7) (k := 3) dX6_worthOf_9 rfl inX6 (by decide) tw_210) (Snd.cons (snd_sipush (v := nI 1023) dX6_worthOf_12 (by decide)) Snd.nil))
set_option maxHeartbeats 4000000 in
set_option maxRecDepth 100000 in
theorem m_X6_worthOf_S {l : Launch} {E : XE} (T : TopN) (S P U : SaleN) (O : OutN) (B : BillN) (Q : SeaN) (C : ScrN) (R : PrtN) (tl rf : Nat → Nat) (hS : SaleOK S) : MetE l E mX6_worthOf (4) 0 0 [.ref 0, .ref 1] (compW T S P U O B Q C R tl rf) (fun r w' => r = some (.int (nI (winW S 1023))) ∧ ∃ O' : OutN, w' = compW T S P U (O') B Q C R tl rf ∧ KeysL O' (keysOf S (packsN S S.ca))) := by
  refine MetE.of (by decide +kernel) (Nat.le_of_ble_eq_true rfl) ?_
  have hKx := wK_spec hS 1023
  obtain ⟨-, -, -, -, -, -, -, -, hk1, hk2, -⟩ := hKx
  refine ev_eq (lv' := [(0, .ref 0), (1, .ref 1)]) (st' := []) (w' := compW T S P U O B Q C R tl rf) rfl rfl rfl ?_
  refine ev_b bX6_worthOf_0_5 (lv' := [(0, .ref 0), (1, .ref 1)]) (st' := [.ref 1, .ref 25]) (w2 := compW T S P U O B Q C R tl rf) rfl ?_
  refine ev_callVN (Yc := mX1_gather) [25, 26, 27, 28, 29, 1, 2, 3, 4, 5, 6, 7, 8] dX6_worthOf_5 tn_497 kX1_gather (m_X1_gather O S hS) rfl (st := []) rfl rfl rfl (by decide) hw_comp__25_1 (by decide) (Nat.le_of_ble_eq_true rfl) (Nat.le_refl _) (Nat.le_refl _) (fun r w' h => by obtain ⟨-, O', rfl, -⟩ := h; exact Nat.le_of_ble_eq_true rfl) ?_
  rintro _ _ ⟨rfl, O1, rfl, hK1⟩
  refine ev_eq (lv' := [(0, .ref 0), (1, .ref 1)]) (st' := []) (w' := compW T S P U O1 B Q C R tl rf) rfl rfl xp_comp__25_1 ?_
  refine ev_b bX6_worthOf_8_15 (lv' := [(0, .ref 0), (1, .ref 1)]) (st' := [.int (nI (1023)), .ref 25]) (w2 := compW T S P U O1 B Q C R tl rf) rfl ?_
  refine ev_callVN (Yc := mX1_first) [25, 26, 27, 28, 29] dX6_worthOf_15 tn_543 kX1_first (m_X1_first O1 1023 (keys_ok hS hK1)) rfl (st := []) rfl rfl rfl (by decide) hw_comp__25 (by decide) (Nat.le_of_ble_eq_true rfl) (Nat.le_refl _) (Nat.le_refl _) (fun r w' h => by obtain ⟨-, rfl⟩ := h; exact Nat.le_of_ble_eq_true rfl) ?_
  rintro _ _ ⟨rfl, rfl⟩
  refine ev_eq (lv' := [(0, .ref 0), (1, .ref 1)]) (st' := [.int (nI (firstTo O1.ke 1023 O1.sz))]) (w' := compW T S P U O1 B Q C R tl rf) rfl rfl xp_comp__25 ?_
  refine ev_top (y := (nI (wK S 1023))) (congrArg nI (show firstTo O1.ke 1023 O1.sz = wK S 1023 from by exact first_L hK1 _)) ?_
  refine ev_callSN (Yc := mX1_worthIn) [] dX6_worthOf_18 tn_621 kX1_worthIn (m_X1_worthIn (wK S 1023) hk1 hk2) rfl (st := []) rfl (by decide) rfl (by decide) (Nat.le_of_ble_eq_true rfl) (Nat.le_refl _) (Nat.le_refl _) (fun r w' h => by obtain ⟨-, rfl⟩ := h; exact Nat.le_of_ble_eq_true rfl) ?_
  rintro _ _ ⟨rfl, rfl⟩
  refine ev_eq (lv' := [(0, .ref 0), (1, .ref 1)]) (st' := [.int (nI (worthK (wK S 1023)))]) (w' := compW T S P U O1 B Q C R tl rf) rfl rfl rfl ?_
  refine ev_top (y := (nI (winW S 1023))) (congrArg nI (show worthK (wK S 1023) = winW S 1023 from by rfl)) ?_
  exact ev_iret dX6_worthOf_21 rfl (Nat.le_refl 49) (Nat.le_refl _) (Nat.le_refl _) ⟨rfl, _, rfl, hK1⟩
theorem hw_comp__25_17 {x0 : TopN} {x1 : SaleN} {x2 : SaleN} {x3 : SaleN} {x4 : OutN} {x5 : BillN} {x6 : SeaN} {x7 : ScrN} {x8 : PrtN} {x9 : Nat → Nat} {x10 : Nat → Nat} : ([25, 26, 27, 28, 29, 17, 18, 19, 20, 21, 22, 23, 24] : List Nat).map (fun i => (compW x0 x1 x2 x3 x4 x5 x6 x7 x8 x9 x10)[i]?) = (outW 0 x4 ++ saleW 5 x3).map (fun e => some (xr ([25, 26, 27, 28, 29, 17, 18, 19, 20, 21, 22, 23, 24] : List Nat) (compW x0 x1 x2 x3 x4 x5 x6 x7 x8 x9 x10).length e)) := rfl
theorem xp_comp__25_17 {x0 : TopN} {x1 : SaleN} {x2 : SaleN} {x3 : SaleN} {x4 : OutN} {x5 : BillN} {x6 : SeaN} {x7 : ScrN} {x8 : PrtN} {x9 : Nat → Nat} {x10 : Nat → Nat} {y0 : OutN} {y1 : SaleN} : xput ([25, 26, 27, 28, 29, 17, 18, 19, 20, 21, 22, 23, 24] : List Nat) (compW x0 x1 x2 x3 x4 x5 x6 x7 x8 x9 x10).length (compW x0 x1 x2 x3 x4 x5 x6 x7 x8 x9 x10) ([25, 26, 27, 28, 29, 17, 18, 19, 20, 21, 22, 23, 24] : List Nat) (outW 0 y0 ++ saleW 5 y1) = compW x0 x1 x2 y1 y0 x5 x6 x7 x8 x9 x10 := by
  have e0 : xput ([25, 26, 27, 28, 29, 17, 18, 19, 20, 21, 22, 23, 24] : List Nat) (compW x0 x1 x2 x3 x4 x5 x6 x7 x8 x9 x10).length (compW x0 x1 x2 x3 x4 x5 x6 x7 x8 x9 x10) ([25, 26, 27, 28, 29] : List Nat) (outW 0 y0) = compW x0 x1 x2 x3 y0 x5 x6 x7 x8 x9 x10 := xput_blk (topW 0 x0 ++ (saleW 1 x1 ++ (saleW 9 x2 ++ (saleW 17 x3)))) (outW 25 x4) (billW 30 x5 ++ (seaW 35 x6 ++ (scrW 38 x7 ++ (prtW 45 x8 ++ (row5 47 x9 ++ (row7 48 x10)))))) (outW 0 y0) rfl
  have e1 : xput ([25, 26, 27, 28, 29, 17, 18, 19, 20, 21, 22, 23, 24] : List Nat) (compW x0 x1 x2 x3 x4 x5 x6 x7 x8 x9 x10).length (compW x0 x1 x2 x3 y0 x5 x6 x7 x8 x9 x10) ([17, 18, 19, 20, 21, 22, 23, 24] : List Nat) (saleW 5 y1) = compW x0 x1 x2 y1 y0 x5 x6 x7 x8 x9 x10 := xput_blk (topW 0 x0 ++ (saleW 1 x1 ++ (saleW 9 x2))) (saleW 17 x3) (outW 25 y0 ++ (billW 30 x5 ++ (seaW 35 x6 ++ (scrW 38 x7 ++ (prtW 45 x8 ++ (row5 47 x9 ++ (row7 48 x10))))))) (saleW 5 y1) rfl
  refine (xput_app ([25, 26, 27, 28, 29] : List Nat) ([17, 18, 19, 20, 21, 22, 23, 24] : List Nat) _ (outW 0 y0) (saleW 5 y1) rfl).trans ?_
  exact (congrArg (fun t => xput ([25, 26, 27, 28, 29, 17, 18, 19, 20, 21, 22, 23, 24] : List Nat) (compW x0 x1 x2 x3 x4 x5 x6 x7 x8 x9 x10).length t ([17, 18, 19, 20, 21, 22, 23, 24] : List Nat) (saleW 5 y1)) e0).trans e1
set_option maxHeartbeats 4000000 in
set_option maxRecDepth 100000 in
theorem m_X6_winnersOf_U {l : Launch} {E : XE} (T : TopN) (S P U : SaleN) (O : OutN) (B : BillN) (Q : SeaN) (C : ScrN) (R : PrtN) (tl rf : Nat → Nat) (hU : SaleOK U) : MetE l E mX6_winnersOf (4) 0 0 [.ref 0, .ref 17] (compW T S P U O B Q C R tl rf) (fun r w' => r = some (.int (nI (winB U 1023))) ∧ ∃ O' : OutN, w' = compW T S P U (O') B Q C R tl rf ∧ KeysL O' (keysOf U (packsN U U.ca))) := by
  refine MetE.of (by decide +kernel) (Nat.le_of_ble_eq_true rfl) ?_
  have hKx := wK_spec hU 1023
  obtain ⟨-, -, -, -, -, -, -, -, hk1, hk2, -⟩ := hKx
  refine ev_eq (lv' := [(0, .ref 0), (1, .ref 17)]) (st' := []) (w' := compW T S P U O B Q C R tl rf) rfl rfl rfl ?_
  refine ev_b bX6_winnersOf_0_5 (lv' := [(0, .ref 0), (1, .ref 17)]) (st' := [.ref 17, .ref 25]) (w2 := compW T S P U O B Q C R tl rf) rfl ?_
  refine ev_callVN (Yc := mX1_gather) [25, 26, 27, 28, 29, 17, 18, 19, 20, 21, 22, 23, 24] dX6_winnersOf_5 tn_497 kX1_gather (m_X1_gather O U hU) rfl (st := []) rfl rfl rfl (by decide) hw_comp__25_17 (by decide) (Nat.le_of_ble_eq_true rfl) (Nat.le_refl _) (Nat.le_refl _) (fun r w' h => by obtain ⟨-, O', rfl, -⟩ := h; exact Nat.le_of_ble_eq_true rfl) ?_
  rintro _ _ ⟨rfl, O1, rfl, hK1⟩
  refine ev_eq (lv' := [(0, .ref 0), (1, .ref 17)]) (st' := []) (w' := compW T S P U O1 B Q C R tl rf) rfl rfl xp_comp__25_17 ?_
  refine ev_b bX6_winnersOf_8_15 (lv' := [(0, .ref 0), (1, .ref 17)]) (st' := [.int (nI (1023)), .ref 25]) (w2 := compW T S P U O1 B Q C R tl rf) rfl ?_
  refine ev_callVN (Yc := mX1_first) [25, 26, 27, 28, 29] dX6_winnersOf_15 tn_543 kX1_first (m_X1_first O1 1023 (keys_ok hU hK1)) rfl (st := []) rfl rfl rfl (by decide) hw_comp__25 (by decide) (Nat.le_of_ble_eq_true rfl) (Nat.le_refl _) (Nat.le_refl _) (fun r w' h => by obtain ⟨-, rfl⟩ := h; exact Nat.le_of_ble_eq_true rfl) ?_
  rintro _ _ ⟨rfl, rfl⟩
  refine ev_eq (lv' := [(0, .ref 0), (1, .ref 17)]) (st' := [.int (nI (firstTo O1.ke 1023 O1.sz))]) (w' := compW T S P U O1 B Q C R tl rf) rfl rfl xp_comp__25 ?_
  refine ev_top (y := (nI (wK U 1023))) (congrArg nI (show firstTo O1.ke 1023 O1.sz = wK U 1023 from by exact first_L hK1 _)) ?_
  refine ev_callSN (Yc := mX1_bidsIn) [] dX6_winnersOf_18 tn_551 kX1_bidsIn (m_X1_bidsIn (wK U 1023)) rfl (st := []) rfl (by decide) rfl (by decide) (Nat.le_of_ble_eq_true rfl) (Nat.le_refl _) (Nat.le_refl _) (fun r w' h => by obtain ⟨-, rfl⟩ := h; exact Nat.le_of_ble_eq_true rfl) ?_
  rintro _ _ ⟨rfl, rfl⟩
  refine ev_eq (lv' := [(0, .ref 0), (1, .ref 17)]) (st' := [.int (nI (bidsN (wK U 1023)))]) (w' := compW T S P U O1 B Q C R tl rf) rfl rfl rfl ?_
  refine ev_top (y := (nI (winB U 1023))) (congrArg nI (show bidsN (wK U 1023) = winB U 1023 from by rfl)) ?_
  exact ev_iret dX6_winnersOf_21 rfl (Nat.le_refl 49) (Nat.le_refl _) (Nat.le_refl _) ⟨rfl, _, rfl, hK1⟩
set_option maxHeartbeats 4000000 in
set_option maxRecDepth 100000 in
theorem m_X6_worthOf_U {l : Launch} {E : XE} (T : TopN) (S P U : SaleN) (O : OutN) (B : BillN) (Q : SeaN) (C : ScrN) (R : PrtN) (tl rf : Nat → Nat) (hU : SaleOK U) : MetE l E mX6_worthOf (4) 0 0 [.ref 0, .ref 17] (compW T S P U O B Q C R tl rf) (fun r w' => r = some (.int (nI (winW U 1023))) ∧ ∃ O' : OutN, w' = compW T S P U (O') B Q C R tl rf ∧ KeysL O' (keysOf U (packsN U U.ca))) := by
  refine MetE.of (by decide +kernel) (Nat.le_of_ble_eq_true rfl) ?_
  have hKx := wK_spec hU 1023
  obtain ⟨-, -, -, -, -, -, -, -, hk1, hk2, -⟩ := hKx
  refine ev_eq (lv' := [(0, .ref 0), (1, .ref 17)]) (st' := []) (w' := compW T S P U O B Q C R tl rf) rfl rfl rfl ?_
  refine ev_b bX6_worthOf_0_5 (lv' := [(0, .ref 0), (1, .ref 17)]) (st' := [.ref 17, .ref 25]) (w2 := compW T S P U O B Q C R tl rf) rfl ?_
  refine ev_callVN (Yc := mX1_gather) [25, 26, 27, 28, 29, 17, 18, 19, 20, 21, 22, 23, 24] dX6_worthOf_5 tn_497 kX1_gather (m_X1_gather O U hU) rfl (st := []) rfl rfl rfl (by decide) hw_comp__25_17 (by decide) (Nat.le_of_ble_eq_true rfl) (Nat.le_refl _) (Nat.le_refl _) (fun r w' h => by obtain ⟨-, O', rfl, -⟩ := h; exact Nat.le_of_ble_eq_true rfl) ?_
  rintro _ _ ⟨rfl, O1, rfl, hK1⟩
  refine ev_eq (lv' := [(0, .ref 0), (1, .ref 17)]) (st' := []) (w' := compW T S P U O1 B Q C R tl rf) rfl rfl xp_comp__25_17 ?_
  refine ev_b bX6_worthOf_8_15 (lv' := [(0, .ref 0), (1, .ref 17)]) (st' := [.int (nI (1023)), .ref 25]) (w2 := compW T S P U O1 B Q C R tl rf) rfl ?_
  refine ev_callVN (Yc := mX1_first) [25, 26, 27, 28, 29] dX6_worthOf_15 tn_543 kX1_first (m_X1_first O1 1023 (keys_ok hU hK1)) rfl (st := []) rfl rfl rfl (by decide) hw_comp__25 (by decide) (Nat.le_of_ble_eq_true rfl) (Nat.le_refl _) (Nat.le_refl _) (fun r w' h => by obtain ⟨-, rfl⟩ := h; exact Nat.le_of_ble_eq_true rfl) ?_
  rintro _ _ ⟨rfl, rfl⟩
  refine ev_eq (lv' := [(0, .ref 0), (1, .ref 17)]) (st' := [.int (nI (firstTo O1.ke 1023 O1.sz))]) (w' := compW T S P U O1 B Q C R tl rf) rfl rfl xp_comp__25 ?_
  refine ev_top (y := (nI (wK U 1023))) (congrArg nI (show firstTo O1.ke 1023 O1.sz = wK U 1023 from by exact first_L hK1 _)) ?_
  refine ev_callSN (Yc := mX1_worthIn) [] dX6_worthOf_18 tn_621 kX1_worthIn (m_X1_worthIn (wK U 1023) hk1 hk2) rfl (st := []) rfl (by decide) rfl (by decide) (Nat.le_of_ble_eq_true rfl) (Nat.le_refl _) (Nat.le_refl _) (fun r w' h => by obtain ⟨-, rfl⟩ := h; exact Nat.le_of_ble_eq_true rfl) ?_
  rintro _ _ ⟨rfl, rfl⟩
  refine ev_eq (lv' := [(0, .ref 0), (1, .ref 17)]) (st' := [.int (nI (worthK (wK U 1023)))]) (w' := compW T S P U O1 B Q C R tl rf) rfl rfl rfl ?_
  refine ev_top (y := (nI (winW U 1023))) (congrArg nI (show worthK (wK U 1023) = winW U 1023 from by rfl)) ?_
  exact ev_iret dX6_worthOf_21 rfl (Nat.le_refl 49) (Nat.le_refl _) (Nat.le_refl _) ⟨rfl, _, rfl, hK1⟩
