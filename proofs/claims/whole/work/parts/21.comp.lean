/-! ===== the whole component: its own object, three sales, the scratch rows ===== -/
abbrev TopN : Type := Nat × Nat
abbrev TopN.tc (T : TopN) : Nat := T.1
abbrev TopN.hp (T : TopN) : Nat := T.2
def topW (_ : Nat) (T : TopN) : AW := [.inr (7, [.ref 1, .ref 9, .ref 17, .ref 25, .ref 30, .ref 35, .ref 38, .ref 45, .ref 47, .ref 48, .int (nI T.tc), .int (nI T.hp)])]
abbrev ScrN : Type := (Nat → Nat) × (Nat → Nat) × (Nat → Int) × (Nat → Int) × (Nat → Int) × (Nat → Int) × Nat × Nat × Int × Nat
abbrev ScrN.lt (C : ScrN) : Nat → Nat := C.1
abbrev ScrN.st (C : ScrN) : Nat → Nat := C.2.1
abbrev ScrN.wd (C : ScrN) : Nat → Int := C.2.2.1
abbrev ScrN.f1 (C : ScrN) : Nat → Int := C.2.2.2.1
abbrev ScrN.f2 (C : ScrN) : Nat → Int := C.2.2.2.2.1
abbrev ScrN.f3 (C : ScrN) : Nat → Int := C.2.2.2.2.2.1
abbrev ScrN.sz (C : ScrN) : Nat := C.2.2.2.2.2.2.1
abbrev ScrN.pl (C : ScrN) : Nat := C.2.2.2.2.2.2.2.1
abbrev ScrN.fa (C : ScrN) : Int := C.2.2.2.2.2.2.2.2.1
abbrev ScrN.sn (C : ScrN) : Nat := C.2.2.2.2.2.2.2.2.2
def scrW (b : Nat) (C : ScrN) : AW := [.inr (5, [.ref (b + 1), .ref (b + 2), .ref (b + 3), .ref (b + 4), .ref (b + 5), .ref (b + 6), .int (nI C.sz), .int (nI C.pl), .int (zI C.fa), .int (nI C.sn)]), .inl (0, 96, .inl (aI C.lt)), .inl (0, 16, .inl (aI C.st)), .inl (0, 16, .inl (aZ C.wd)), .inl (0, 16, .inl (aZ C.f1)), .inl (0, 16, .inl (aZ C.f2)), .inl (0, 16, .inl (aZ C.f3))]
abbrev PrtN : Type := (Nat → Nat) × Nat
abbrev PrtN.sg (R : PrtN) : Nat → Nat := R.1
abbrev PrtN.ln (R : PrtN) : Nat := R.2
def prtW (b : Nat) (R : PrtN) : AW := [.inr (3, [.ref (b + 1), .int (nI R.ln)]), .inl (0, 64, .inl (aI R.sg))]
def row5 (_ : Nat) (f : Nat → Nat) : AW := [.inl (0, 5, .inl (aI f))]
def row7 (_ : Nat) (f : Nat → Nat) : AW := [.inl (0, 7, .inl (aI f))]
def compW (T : TopN) (S P U : SaleN) (O : OutN) (B : BillN) (Q : SeaN) (C : ScrN) (R : PrtN) (tl rf : Nat → Nat) : AW :=
  topW 0 T ++ (saleW 1 S ++ (saleW 9 P ++ (saleW 17 U ++ (outW 25 O ++ (billW 30 B ++ (seaW 35 Q ++ (scrW 38 C ++ (prtW 45 R ++ (row5 47 tl ++ row7 48 rf)))))))))
/-- the first bit of n places from k on; -9 -/
def firstZ (x : Nat) : Nat → Nat → Int
  | 0, _ => -9
  | n + 1, k => if x.testBit k = true then (k : Int) else firstZ x n (k + 1)
theorem first_step {x k : Nat} (h : firstZ x 10 0 = firstZ x (10 - k) k) (hk : k < 10) : firstZ x 10 0 = if x.testBit k = true then (k : Int) else firstZ x (10 - (k + 1)) (k + 1) := by
  rw [h, show 10 - k = (10 - (k + 1)) + 1 by omega]
  rfl
/-- what a call leaves: the answer, and of the component all that a later call can ask for -/
def CP (T : TopN) (S P : SaleN) (lt : Nat → Nat) (sz : Nat) (tl rf : Nat → Nat) (r : Option Value) : Option Value → AW → Prop := fun r' w' => r' = r ∧ ∃ (U : SaleN) (O : OutN) (B : BillN) (Q : SeaN) (C : ScrN) (R : PrtN), w' = compW T S P U O B Q C R tl rf ∧ Q.fd < 2147483648 ∧ C.lt = lt ∧ C.sz = sz
theorem turn_lt {S : SaleN} (hS : SaleOK S) {k : Nat} (hk : k < S.ca) : SaleN.ac (turnS S k) < 2147483648 := by
  have h1 : S.ac ^^^ 1 <<< k < 2 ^ S.ca := Nat.xor_lt_two_pow hS.2.1 (shl_lt hk)
  have h2 := pow_ca hS
  show S.ac ^^^ 1 <<< k < 2147483648
  omega

theorem hw_comp__25_1 {x0 : TopN} {x1 : SaleN} {x2 : SaleN} {x3 : SaleN} {x4 : OutN} {x5 : BillN} {x6 : SeaN} {x7 : ScrN} {x8 : PrtN} {x9 : Nat → Nat} {x10 : Nat → Nat} : ([25, 26, 27, 28, 29, 1, 2, 3, 4, 5, 6, 7, 8] : List Nat).map (fun i => (compW x0 x1 x2 x3 x4 x5 x6 x7 x8 x9 x10)[i]?) = (outW 0 x4 ++ saleW 5 x1).map (fun e => some (xr ([25, 26, 27, 28, 29, 1, 2, 3, 4, 5, 6, 7, 8] : List Nat) (compW x0 x1 x2 x3 x4 x5 x6 x7 x8 x9 x10).length e)) := rfl
theorem xp_comp__25_1 {x0 : TopN} {x1 : SaleN} {x2 : SaleN} {x3 : SaleN} {x4 : OutN} {x5 : BillN} {x6 : SeaN} {x7 : ScrN} {x8 : PrtN} {x9 : Nat → Nat} {x10 : Nat → Nat} {y0 : OutN} {y1 : SaleN} : xput ([25, 26, 27, 28, 29, 1, 2, 3, 4, 5, 6, 7, 8] : List Nat) (compW x0 x1 x2 x3 x4 x5 x6 x7 x8 x9 x10).length (compW x0 x1 x2 x3 x4 x5 x6 x7 x8 x9 x10) ([25, 26, 27, 28, 29, 1, 2, 3, 4, 5, 6, 7, 8] : List Nat) (outW 0 y0 ++ saleW 5 y1) = compW x0 y1 x2 x3 y0 x5 x6 x7 x8 x9 x10 := by
  have e0 : xput ([25, 26, 27, 28, 29, 1, 2, 3, 4, 5, 6, 7, 8] : List Nat) (compW x0 x1 x2 x3 x4 x5 x6 x7 x8 x9 x10).length (compW x0 x1 x2 x3 x4 x5 x6 x7 x8 x9 x10) ([25, 26, 27, 28, 29] : List Nat) (outW 0 y0) = compW x0 x1 x2 x3 y0 x5 x6 x7 x8 x9 x10 := xput_blk (topW 0 x0 ++ (saleW 1 x1 ++ (saleW 9 x2 ++ (saleW 17 x3)))) (outW 25 x4) (billW 30 x5 ++ (seaW 35 x6 ++ (scrW 38 x7 ++ (prtW 45 x8 ++ (row5 47 x9 ++ (row7 48 x10)))))) (outW 0 y0) rfl
  have e1 : xput ([25, 26, 27, 28, 29, 1, 2, 3, 4, 5, 6, 7, 8] : List Nat) (compW x0 x1 x2 x3 x4 x5 x6 x7 x8 x9 x10).length (compW x0 x1 x2 x3 y0 x5 x6 x7 x8 x9 x10) ([1, 2, 3, 4, 5, 6, 7, 8] : List Nat) (saleW 5 y1) = compW x0 y1 x2 x3 y0 x5 x6 x7 x8 x9 x10 := xput_blk (topW 0 x0) (saleW 1 x1) (saleW 9 x2 ++ (saleW 17 x3 ++ (outW 25 y0 ++ (billW 30 x5 ++ (seaW 35 x6 ++ (scrW 38 x7 ++ (prtW 45 x8 ++ (row5 47 x9 ++ (row7 48 x10))))))))) (saleW 5 y1) rfl
  refine (xput_app ([25, 26, 27, 28, 29] : List Nat) ([1, 2, 3, 4, 5, 6, 7, 8] : List Nat) _ (outW 0 y0) (saleW 5 y1) rfl).trans ?_
  exact (congrArg (fun t => xput ([25, 26, 27, 28, 29, 1, 2, 3, 4, 5, 6, 7, 8] : List Nat) (compW x0 x1 x2 x3 x4 x5 x6 x7 x8 x9 x10).length t ([1, 2, 3, 4, 5, 6, 7, 8] : List Nat) (saleW 5 y1)) e0).trans e1
theorem hw_comp__25 {x0 : TopN} {x1 : SaleN} {x2 : SaleN} {x3 : SaleN} {x4 : OutN} {x5 : BillN} {x6 : SeaN} {x7 : ScrN} {x8 : PrtN} {x9 : Nat → Nat} {x10 : Nat → Nat} : ([25, 26, 27, 28, 29] : List Nat).map (fun i => (compW x0 x1 x2 x3 x4 x5 x6 x7 x8 x9 x10)[i]?) = (outW 0 x4).map (fun e => some (xr ([25, 26, 27, 28, 29] : List Nat) (compW x0 x1 x2 x3 x4 x5 x6 x7 x8 x9 x10).length e)) := rfl
theorem xp_comp__25 {x0 : TopN} {x1 : SaleN} {x2 : SaleN} {x3 : SaleN} {x4 : OutN} {x5 : BillN} {x6 : SeaN} {x7 : ScrN} {x8 : PrtN} {x9 : Nat → Nat} {x10 : Nat → Nat} {y0 : OutN} : xput ([25, 26, 27, 28, 29] : List Nat) (compW x0 x1 x2 x3 x4 x5 x6 x7 x8 x9 x10).length (compW x0 x1 x2 x3 x4 x5 x6 x7 x8 x9 x10) ([25, 26, 27, 28, 29] : List Nat) (outW 0 y0) = compW x0 x1 x2 x3 y0 x5 x6 x7 x8 x9 x10 := by
  have e0 : xput ([25, 26, 27, 28, 29] : List Nat) (compW x0 x1 x2 x3 x4 x5 x6 x7 x8 x9 x10).length (compW x0 x1 x2 x3 x4 x5 x6 x7 x8 x9 x10) ([25, 26, 27, 28, 29] : List Nat) (outW 0 y0) = compW x0 x1 x2 x3 y0 x5 x6 x7 x8 x9 x10 := xput_blk (topW 0 x0 ++ (saleW 1 x1 ++ (saleW 9 x2 ++ (saleW 17 x3)))) (outW 25 x4) (billW 30 x5 ++ (seaW 35 x6 ++ (scrW 38 x7 ++ (prtW 45 x8 ++ (row5 47 x9 ++ (row7 48 x10)))))) (outW 0 y0) rfl
  exact e0
theorem bX6_winnersOf_0_5 {l : Launch} {E : XE} : Snd l E mX6_winnersOf 0 5 (xs [x_aload 0, x_get 7 3, x_aload 1]) := Snd.cons (snd_aload_n (i := 0) dX6_winnersOf_0 rfl) (Snd.cons (snd_get (ci := 7) (k := 3) dX6_winnersOf_1 rfl inX6 (by decide) tw_210) (Snd.cons (snd_aload_n (i := 1) dX6_winnersOf_4 rfl) Snd.nil))
theorem bX6_winnersOf_8_15 {l : Launch} {E : XE} : Snd l E mX6_winnersOf 8 15 (xs [x_aload 0, x_get 7 3, x_push (.int (nI 1023))]) := Snd.cons (snd_aload_n (i := 0) dX6_winnersOf_8 rfl) (Snd.cons (snd_get (ci := 7) (k := 3) dX6_winnersOf_9 rfl inX6 (by decide) tw_210) (Snd.cons (snd_sipush (v := nI 1023) dX6_winnersOf_12 (by decide)) Snd.nil))
set_option maxHeartbeats 4000000 in
set_option maxRecDepth 100000 in
theorem m_X6_winnersOf_S {l : Launch} {E : XE} (T : TopN) (S P U : SaleN) (O : OutN) (B : BillN) (Q : SeaN) (C : ScrN) (R : PrtN) (tl rf : Nat → Nat) (hS : SaleOK S) : MetE l E mX6_winnersOf (4) 0 0 [.ref 0, .ref 1] (compW T S P U O B Q C R tl rf) (fun r w' => r = some (.int (nI (winB S 1023))) ∧ ∃ O' : OutN, w' = compW T S P U (O') B Q C R tl rf ∧ KeysL O' (keysOf S (packsN S S.ca))) := by
  refine MetE.of (by decide +kernel) (Nat.le_of_ble_eq_true rfl) ?_
  have hKx := wK_spec hS 1023
  obtain ⟨-, -, -, -, -, -, -, -, hk1, hk2, -⟩ := hKx
  refine ev_eq (lv' := [(0, .ref 0), (1, .ref 1)]) (st' := []) (w' := compW T S P U O B Q C R tl rf) rfl rfl rfl ?_
  refine ev_b bX6_winnersOf_0_5 (lv' := [(0, .ref 0), (1, .ref 1)]) (st' := [.ref 1, .ref 25]) (w2 := compW T S P U O B Q C R tl rf) rfl ?_
  refine ev_callVN (Yc := mX1_gather) [25, 26, 27, 28, 29, 1, 2, 3, 4, 5, 6, 7, 8] dX6_winnersOf_5 tn_497 kX1_gather (m_X1_gather O S hS) rfl (st := []) rfl rfl rfl (by decide) hw_comp__25_1 (by decide) (Nat.le_of_ble_eq_true rfl) (Nat.le_refl _) (Nat.le_refl _) (fun r w' h => by obtain ⟨-, O', rfl, -⟩ := h; exact Nat.le_of_ble_eq_true rfl) ?_
  rintro _ _ ⟨rfl, O1, rfl, hK1⟩
  refine ev_eq (lv' := [(0, .ref 0), (1, .ref 1)]) (st' := []) (w' := compW T S P U O1 B Q C R tl rf) rfl rfl xp_comp__25_1 ?_
  refine ev_b bX6_winnersOf_8_15 (lv' := [(0, .ref 0), (1, .ref 1)]) (st' := [.int (nI (1023)), .ref 25]) (w2 := compW T S P U O1 B Q C R tl rf) rfl ?_
  refine ev_callVN (Yc := mX1_first) [25, 26, 27, 28, 29] dX6_winnersOf_15 tn_543 kX1_first (m_X1_first O1 1023 (keys_ok hS hK1)) rfl (st := []) rfl rfl rfl (by decide) hw_comp__25 (by decide) (Nat.le_of_ble_eq_true rfl) (Nat.le_refl _) (Nat.le_refl _) (fun r w' h => by obtain ⟨-, rfl⟩ := h; exact Nat.le_of_ble_eq_true rfl) ?_
  rintro _ _ ⟨rfl, rfl⟩
  refine ev_eq (lv' := [(0, .ref 0), (1, .ref 1)]) (st' := [.int (nI (firstTo O1.ke 1023 O1.sz))]) (w' := compW T S P U O1 B Q C R tl rf) rfl rfl xp_comp__25 ?_
  refine ev_top (y := (nI (wK S 1023))) (congrArg nI (show firstTo O1.ke 1023 O1.sz = wK S 1023 from by exact first_L hK1 _)) ?_
  refine ev_callSN (Yc := mX1_bidsIn) [] dX6_winnersOf_18 tn_555 kX1_bidsIn (m_X1_bidsIn (wK S 1023)) rfl (st := []) rfl (by decide) rfl (by decide) (Nat.le_of_ble_eq_true rfl) (Nat.le_refl _) (Nat.le_refl _) (fun r w' h => by obtain ⟨-, rfl⟩ := h; exact Nat.le_of_ble_eq_true rfl) ?_
  rintro _ _ ⟨rfl, rfl⟩
  refine ev_eq (lv' := [(0, .ref 0), (1, .ref 1)]) (st' := [.int (nI (bidsN (wK S 1023)))]) (w' := compW T S P U O1 B Q C R tl rf) rfl rfl rfl ?_
  refine ev_top (y := (nI (winB S 1023))) (congrArg nI (show bidsN (wK S 1023) = winB S 1023 from by rfl)) ?_
  exact ev_iret dX6_winnersOf_21 rfl (Nat.le_refl 49) (Nat.le_refl _) (Nat.le_refl _) ⟨rfl, _, rfl, hK1⟩
theorem bX6_worthOf_0_5 {l : Launch} {E : XE} : Snd l E mX6_worthOf 0 5 (xs [x_aload 0, x_get 7 3, x_aload 1]) := Snd.cons (snd_aload_n (i := 0) dX6_worthOf_0 rfl) (Snd.cons (snd_get (ci := 7) (k := 3) dX6_worthOf_1 rfl inX6 (by decide) tw_210) (Snd.cons (snd_aload_n (i := 1) dX6_worthOf_4 rfl) Snd.nil))
theorem bX6_worthOf_8_15 {l : Launch} {E : XE} : Snd l E mX6_worthOf 8 15 (xs [x_aload 0, x_get 7 3, x_push (.int (nI 1023))]) := Snd.cons (snd_aload_n (i := 0) dX6_worthOf_8 rfl) (Snd.cons (snd_get (ci := 7) (k := 3) dX6_worthOf_9 rfl inX6 (by decide) tw_210) (Snd.cons (snd_sipush (v := nI 1023) dX6_worthOf_12 (by decide)) Snd.nil))
set_option maxHeartbeats 4000000 in
set_option maxRecDepth 100000 in
theorem m_X6_worthOf_S {l : Launch} {E : XE} (T : TopN) (S P U : SaleN) (O : OutN) (B : BillN) (Q : SeaN) (C : ScrN) (R : PrtN) (tl rf : Nat → Nat) (hS : SaleOK S) : MetE l E mX6_worthOf (4) 0 0 [.ref 0, .ref 1] (compW T S P U O B Q C R tl rf) (fun r w' => r = some (.int (nI (winW S 1023))) ∧ ∃ O' : OutN, w' = compW T S P U (O') B Q C R tl rf ∧ KeysL O' (keysOf S (packsN S S.ca))) := by
  refine MetE.of (by decide +kernel) (Nat.le_of_ble_eq_true rfl) ?_
  have hKx := wK_spec hS 1023
  obtain ⟨-, -, -, -, -, -, -, -, hk1, hk2, -⟩ := hKx
  refine ev_eq (lv' := [(0, .ref 0), (1, .ref 1)]) (st' := []) (w' := compW T S P U O B Q C R tl rf) rfl rfl rfl ?_
  refine ev_b bX6_worthOf_0_5 (lv' := [(0, .ref 0), (1, .ref 1)]) (st' := [.ref 1, .ref 25]) (w2 := compW T S P U O B Q C R tl rf) rfl ?_
  refine ev_callVN (Yc := mX1_gather) [25, 26, 27, 28, 29, 1, 2, 3, 4, 5, 6, 7, 8] dX6_worthOf_5 tn_497 kX1_gather (m_X1_gather O S hS) rfl (st := []) rfl rfl rfl (by decide) hw_comp__25_1 (by decide) (Nat.le_of_ble_eq_true rfl) (Nat.le_refl _) (Nat.le_refl _) (fun r w' h => by obtain ⟨-, O', rfl, -⟩ := h; exact Nat.le_of_ble_eq_true rfl) ?_
  rintro _ _ ⟨rfl, O1, rfl, hK1⟩
  refine ev_eq (lv' := [(0, .ref 0), (1, .ref 1)]) (st' := []) (w' := compW T S P U O1 B Q C R tl rf) rfl rfl xp_comp__25_1 ?_
  refine ev_b bX6_worthOf_8_15 (lv' := [(0, .ref 0), (1, .ref 1)]) (st' := [.int (nI (1023)), .ref 25]) (w2 := compW T S P U O1 B Q C R tl rf) rfl ?_
  refine ev_callVN (Yc := mX1_first) [25, 26, 27, 28, 29] dX6_worthOf_15 tn_543 kX1_first (m_X1_first O1 1023 (keys_ok hS hK1)) rfl (st := []) rfl rfl rfl (by decide) hw_comp__25 (by decide) (Nat.le_of_ble_eq_true rfl) (Nat.le_refl _) (Nat.le_refl _) (fun r w' h => by obtain ⟨-, rfl⟩ := h; exact Nat.le_of_ble_eq_true rfl) ?_
  rintro _ _ ⟨rfl, rfl⟩
  refine ev_eq (lv' := [(0, .ref 0), (1, .ref 1)]) (st' := [.int (nI (firstTo O1.ke 1023 O1.sz))]) (w' := compW T S P U O1 B Q C R tl rf) rfl rfl xp_comp__25 ?_
  refine ev_top (y := (nI (wK S 1023))) (congrArg nI (show firstTo O1.ke 1023 O1.sz = wK S 1023 from by exact first_L hK1 _)) ?_
  refine ev_callSN (Yc := mX1_worthIn) [] dX6_worthOf_18 tn_633 kX1_worthIn (m_X1_worthIn (wK S 1023) hk1 hk2) rfl (st := []) rfl (by decide) rfl (by decide) (Nat.le_of_ble_eq_true rfl) (Nat.le_refl _) (Nat.le_refl _) (fun r w' h => by obtain ⟨-, rfl⟩ := h; exact Nat.le_of_ble_eq_true rfl) ?_
  rintro _ _ ⟨rfl, rfl⟩
  refine ev_eq (lv' := [(0, .ref 0), (1, .ref 1)]) (st' := [.int (nI (worthK (wK S 1023)))]) (w' := compW T S P U O1 B Q C R tl rf) rfl rfl rfl ?_
  refine ev_top (y := (nI (winW S 1023))) (congrArg nI (show worthK (wK S 1023) = winW S 1023 from by rfl)) ?_
  exact ev_iret dX6_worthOf_21 rfl (Nat.le_refl 49) (Nat.le_refl _) (Nat.le_refl _) ⟨rfl, _, rfl, hK1⟩
theorem hw_comp__25_17 {x0 : TopN} {x1 : SaleN} {x2 : SaleN} {x3 : SaleN} {x4 : OutN} {x5 : BillN} {x6 : SeaN} {x7 : ScrN} {x8 : PrtN} {x9 : Nat → Nat} {x10 : Nat → Nat} : ([25, 26, 27, 28, 29, 17, 18, 19, 20, 21, 22, 23, 24] : List Nat).map (fun i => (compW x0 x1 x2 x3 x4 x5 x6 x7 x8 x9 x10)[i]?) = (outW 0 x4 ++ saleW 5 x3).map (fun e => some (xr ([25, 26, 27, 28, 29, 17, 18, 19, 20, 21, 22, 23, 24] : List Nat) (compW x0 x1 x2 x3 x4 x5 x6 x7 x8 x9 x10).length e)) := rfl
theorem xp_comp__25_17 {x0 : TopN} {x1 : SaleN} {x2 : SaleN} {x3 : SaleN} {x4 : OutN} {x5 : BillN} {x6 : SeaN} {x7 : ScrN} {x8 : PrtN} {x9 : Nat → Nat} {x10 : Nat → Nat} {y0 : OutN} {y1 : SaleN} : xput ([25, 26, 27, 28, 29, 17, 18, 19, 20, 21, 22, 23, 24] : List Nat) (compW x0 x1 x2 x3 x4 x5 x6 x7 x8 x9 x10).length (compW x0 x1 x2 x3 x4 x5 x6 x7 x8 x9 x10) ([25, 26, 27, 28, 29, 17, 18, 19, 20, 21, 22, 23, 24] : List Nat) (outW 0 y0 ++ saleW 5 y1) = compW x0 x1 x2 y1 y0 x5 x6 x7 x8 x9 x10 := by
  have e0 : xput ([25, 26, 27, 28, 29, 17, 18, 19, 20, 21, 22, 23, 24] : List Nat) (compW x0 x1 x2 x3 x4 x5 x6 x7 x8 x9 x10).length (compW x0 x1 x2 x3 x4 x5 x6 x7 x8 x9 x10) ([25, 26, 27, 28, 29] : List Nat) (outW 0 y0) = compW x0 x1 x2 x3 y0 x5 x6 x7 x8 x9 x10 := xput_blk (topW 0 x0 ++ (saleW 1 x1 ++ (saleW 9 x2 ++ (saleW 17 x3)))) (outW 25 x4) (billW 30 x5 ++ (seaW 35 x6 ++ (scrW 38 x7 ++ (prtW 45 x8 ++ (row5 47 x9 ++ (row7 48 x10)))))) (outW 0 y0) rfl
  have e1 : xput ([25, 26, 27, 28, 29, 17, 18, 19, 20, 21, 22, 23, 24] : List Nat) (compW x0 x1 x2 x3 x4 x5 x6 x7 x8 x9 x10).length (compW x0 x1 x2 x3 y0 x5 x6 x7 x8 x9 x10) ([17, 18, 19, 20, 21, 22, 23, 24] : List Nat) (saleW 5 y1) = compW x0 x1 x2 y1 y0 x5 x6 x7 x8 x9 x10 := xput_blk (topW 0 x0 ++ (saleW 1 x1 ++ (saleW 9 x2))) (saleW 17 x3) (outW 25 y0 ++ (billW 30 x5 ++ (seaW 35 x6 ++ (scrW 38 x7 ++ (prtW 45 x8 ++ (row5 47 x9 ++ (row7 48 x10))))))) (saleW 5 y1) rfl
  refine (xput_app ([25, 26, 27, 28, 29] : List Nat) ([17, 18, 19, 20, 21, 22, 23, 24] : List Nat) _ (outW 0 y0) (saleW 5 y1) rfl).trans ?_
  exact (congrArg (fun t => xput ([25, 26, 27, 28, 29, 17, 18, 19, 20, 21, 22, 23, 24] : List Nat) (compW x0 x1 x2 x3 x4 x5 x6 x7 x8 x9 x10).length t ([17, 18, 19, 20, 21, 22, 23, 24] : List Nat) (saleW 5 y1)) e0).trans e1
set_option maxHeartbeats 4000000 in
set_option maxRecDepth 100000 in
theorem m_X6_winnersOf_U {l : Launch} {E : XE} (T : TopN) (S P U : SaleN) (O : OutN) (B : BillN) (Q : SeaN) (C : ScrN) (R : PrtN) (tl rf : Nat → Nat) (hU : SaleOK U) : MetE l E mX6_winnersOf (4) 0 0 [.ref 0, .ref 17] (compW T S P U O B Q C R tl rf) (fun r w' => r = some (.int (nI (winB U 1023))) ∧ ∃ O' : OutN, w' = compW T S P U (O') B Q C R tl rf ∧ KeysL O' (keysOf U (packsN U U.ca))) := by
  refine MetE.of (by decide +kernel) (Nat.le_of_ble_eq_true rfl) ?_
  have hKx := wK_spec hU 1023
  obtain ⟨-, -, -, -, -, -, -, -, hk1, hk2, -⟩ := hKx
  refine ev_eq (lv' := [(0, .ref 0), (1, .ref 17)]) (st' := []) (w' := compW T S P U O B Q C R tl rf) rfl rfl rfl ?_
  refine ev_b bX6_winnersOf_0_5 (lv' := [(0, .ref 0), (1, .ref 17)]) (st' := [.ref 17, .ref 25]) (w2 := compW T S P U O B Q C R tl rf) rfl ?_
  refine ev_callVN (Yc := mX1_gather) [25, 26, 27, 28, 29, 17, 18, 19, 20, 21, 22, 23, 24] dX6_winnersOf_5 tn_497 kX1_gather (m_X1_gather O U hU) rfl (st := []) rfl rfl rfl (by decide) hw_comp__25_17 (by decide) (Nat.le_of_ble_eq_true rfl) (Nat.le_refl _) (Nat.le_refl _) (fun r w' h => by obtain ⟨-, O', rfl, -⟩ := h; exact Nat.le_of_ble_eq_true rfl) ?_
  rintro _ _ ⟨rfl, O1, rfl, hK1⟩
  refine ev_eq (lv' := [(0, .ref 0), (1, .ref 17)]) (st' := []) (w' := compW T S P U O1 B Q C R tl rf) rfl rfl xp_comp__25_17 ?_
  refine ev_b bX6_winnersOf_8_15 (lv' := [(0, .ref 0), (1, .ref 17)]) (st' := [.int (nI (1023)), .ref 25]) (w2 := compW T S P U O1 B Q C R tl rf) rfl ?_
  refine ev_callVN (Yc := mX1_first) [25, 26, 27, 28, 29] dX6_winnersOf_15 tn_543 kX1_first (m_X1_first O1 1023 (keys_ok hU hK1)) rfl (st := []) rfl rfl rfl (by decide) hw_comp__25 (by decide) (Nat.le_of_ble_eq_true rfl) (Nat.le_refl _) (Nat.le_refl _) (fun r w' h => by obtain ⟨-, rfl⟩ := h; exact Nat.le_of_ble_eq_true rfl) ?_
  rintro _ _ ⟨rfl, rfl⟩
  refine ev_eq (lv' := [(0, .ref 0), (1, .ref 17)]) (st' := [.int (nI (firstTo O1.ke 1023 O1.sz))]) (w' := compW T S P U O1 B Q C R tl rf) rfl rfl xp_comp__25 ?_
  refine ev_top (y := (nI (wK U 1023))) (congrArg nI (show firstTo O1.ke 1023 O1.sz = wK U 1023 from by exact first_L hK1 _)) ?_
  refine ev_callSN (Yc := mX1_bidsIn) [] dX6_winnersOf_18 tn_555 kX1_bidsIn (m_X1_bidsIn (wK U 1023)) rfl (st := []) rfl (by decide) rfl (by decide) (Nat.le_of_ble_eq_true rfl) (Nat.le_refl _) (Nat.le_refl _) (fun r w' h => by obtain ⟨-, rfl⟩ := h; exact Nat.le_of_ble_eq_true rfl) ?_
  rintro _ _ ⟨rfl, rfl⟩
  refine ev_eq (lv' := [(0, .ref 0), (1, .ref 17)]) (st' := [.int (nI (bidsN (wK U 1023)))]) (w' := compW T S P U O1 B Q C R tl rf) rfl rfl rfl ?_
  refine ev_top (y := (nI (winB U 1023))) (congrArg nI (show bidsN (wK U 1023) = winB U 1023 from by rfl)) ?_
  exact ev_iret dX6_winnersOf_21 rfl (Nat.le_refl 49) (Nat.le_refl _) (Nat.le_refl _) ⟨rfl, _, rfl, hK1⟩
set_option maxHeartbeats 4000000 in
set_option maxRecDepth 100000 in
theorem m_X6_worthOf_U {l : Launch} {E : XE} (T : TopN) (S P U : SaleN) (O : OutN) (B : BillN) (Q : SeaN) (C : ScrN) (R : PrtN) (tl rf : Nat → Nat) (hU : SaleOK U) : MetE l E mX6_worthOf (4) 0 0 [.ref 0, .ref 17] (compW T S P U O B Q C R tl rf) (fun r w' => r = some (.int (nI (winW U 1023))) ∧ ∃ O' : OutN, w' = compW T S P U (O') B Q C R tl rf ∧ KeysL O' (keysOf U (packsN U U.ca))) := by
  refine MetE.of (by decide +kernel) (Nat.le_of_ble_eq_true rfl) ?_
  have hKx := wK_spec hU 1023
  obtain ⟨-, -, -, -, -, -, -, -, hk1, hk2, -⟩ := hKx
  refine ev_eq (lv' := [(0, .ref 0), (1, .ref 17)]) (st' := []) (w' := compW T S P U O B Q C R tl rf) rfl rfl rfl ?_
  refine ev_b bX6_worthOf_0_5 (lv' := [(0, .ref 0), (1, .ref 17)]) (st' := [.ref 17, .ref 25]) (w2 := compW T S P U O B Q C R tl rf) rfl ?_
  refine ev_callVN (Yc := mX1_gather) [25, 26, 27, 28, 29, 17, 18, 19, 20, 21, 22, 23, 24] dX6_worthOf_5 tn_497 kX1_gather (m_X1_gather O U hU) rfl (st := []) rfl rfl rfl (by decide) hw_comp__25_17 (by decide) (Nat.le_of_ble_eq_true rfl) (Nat.le_refl _) (Nat.le_refl _) (fun r w' h => by obtain ⟨-, O', rfl, -⟩ := h; exact Nat.le_of_ble_eq_true rfl) ?_
  rintro _ _ ⟨rfl, O1, rfl, hK1⟩
  refine ev_eq (lv' := [(0, .ref 0), (1, .ref 17)]) (st' := []) (w' := compW T S P U O1 B Q C R tl rf) rfl rfl xp_comp__25_17 ?_
  refine ev_b bX6_worthOf_8_15 (lv' := [(0, .ref 0), (1, .ref 17)]) (st' := [.int (nI (1023)), .ref 25]) (w2 := compW T S P U O1 B Q C R tl rf) rfl ?_
  refine ev_callVN (Yc := mX1_first) [25, 26, 27, 28, 29] dX6_worthOf_15 tn_543 kX1_first (m_X1_first O1 1023 (keys_ok hU hK1)) rfl (st := []) rfl rfl rfl (by decide) hw_comp__25 (by decide) (Nat.le_of_ble_eq_true rfl) (Nat.le_refl _) (Nat.le_refl _) (fun r w' h => by obtain ⟨-, rfl⟩ := h; exact Nat.le_of_ble_eq_true rfl) ?_
  rintro _ _ ⟨rfl, rfl⟩
  refine ev_eq (lv' := [(0, .ref 0), (1, .ref 17)]) (st' := [.int (nI (firstTo O1.ke 1023 O1.sz))]) (w' := compW T S P U O1 B Q C R tl rf) rfl rfl xp_comp__25 ?_
  refine ev_top (y := (nI (wK U 1023))) (congrArg nI (show firstTo O1.ke 1023 O1.sz = wK U 1023 from by exact first_L hK1 _)) ?_
  refine ev_callSN (Yc := mX1_worthIn) [] dX6_worthOf_18 tn_633 kX1_worthIn (m_X1_worthIn (wK U 1023) hk1 hk2) rfl (st := []) rfl (by decide) rfl (by decide) (Nat.le_of_ble_eq_true rfl) (Nat.le_refl _) (Nat.le_refl _) (fun r w' h => by obtain ⟨-, rfl⟩ := h; exact Nat.le_of_ble_eq_true rfl) ?_
  rintro _ _ ⟨rfl, rfl⟩
  refine ev_eq (lv' := [(0, .ref 0), (1, .ref 17)]) (st' := [.int (nI (worthK (wK U 1023)))]) (w' := compW T S P U O1 B Q C R tl rf) rfl rfl rfl ?_
  refine ev_top (y := (nI (winW U 1023))) (congrArg nI (show worthK (wK U 1023) = winW U 1023 from by rfl)) ?_
  exact ev_iret dX6_worthOf_21 rfl (Nat.le_refl 49) (Nat.le_refl _) (Nat.le_refl _) ⟨rfl, _, rfl, hK1⟩
theorem hw_comp__30_1_25 {x0 : TopN} {x1 : SaleN} {x2 : SaleN} {x3 : SaleN} {x4 : OutN} {x5 : BillN} {x6 : SeaN} {x7 : ScrN} {x8 : PrtN} {x9 : Nat → Nat} {x10 : Nat → Nat} : ([30, 31, 32, 33, 34, 1, 2, 3, 4, 5, 6, 7, 8, 25, 26, 27, 28, 29] : List Nat).map (fun i => (compW x0 x1 x2 x3 x4 x5 x6 x7 x8 x9 x10)[i]?) = (billW 0 x5 ++ saleW 5 x1 ++ outW 13 x4).map (fun e => some (xr ([30, 31, 32, 33, 34, 1, 2, 3, 4, 5, 6, 7, 8, 25, 26, 27, 28, 29] : List Nat) (compW x0 x1 x2 x3 x4 x5 x6 x7 x8 x9 x10).length e)) := rfl
theorem xp_comp__30_1_25 {x0 : TopN} {x1 : SaleN} {x2 : SaleN} {x3 : SaleN} {x4 : OutN} {x5 : BillN} {x6 : SeaN} {x7 : ScrN} {x8 : PrtN} {x9 : Nat → Nat} {x10 : Nat → Nat} {y0 : BillN} {y1 : SaleN} {y2 : OutN} : xput ([30, 31, 32, 33, 34, 1, 2, 3, 4, 5, 6, 7, 8, 25, 26, 27, 28, 29] : List Nat) (compW x0 x1 x2 x3 x4 x5 x6 x7 x8 x9 x10).length (compW x0 x1 x2 x3 x4 x5 x6 x7 x8 x9 x10) ([30, 31, 32, 33, 34, 1, 2, 3, 4, 5, 6, 7, 8, 25, 26, 27, 28, 29] : List Nat) (billW 0 y0 ++ saleW 5 y1 ++ outW 13 y2) = compW x0 y1 x2 x3 y2 y0 x6 x7 x8 x9 x10 := by
  have e0 : xput ([30, 31, 32, 33, 34, 1, 2, 3, 4, 5, 6, 7, 8, 25, 26, 27, 28, 29] : List Nat) (compW x0 x1 x2 x3 x4 x5 x6 x7 x8 x9 x10).length (compW x0 x1 x2 x3 x4 x5 x6 x7 x8 x9 x10) ([30, 31, 32, 33, 34] : List Nat) (billW 0 y0) = compW x0 x1 x2 x3 x4 y0 x6 x7 x8 x9 x10 := xput_blk (topW 0 x0 ++ (saleW 1 x1 ++ (saleW 9 x2 ++ (saleW 17 x3 ++ (outW 25 x4))))) (billW 30 x5) (seaW 35 x6 ++ (scrW 38 x7 ++ (prtW 45 x8 ++ (row5 47 x9 ++ (row7 48 x10))))) (billW 0 y0) rfl
  have e1 : xput ([30, 31, 32, 33, 34, 1, 2, 3, 4, 5, 6, 7, 8, 25, 26, 27, 28, 29] : List Nat) (compW x0 x1 x2 x3 x4 x5 x6 x7 x8 x9 x10).length (compW x0 x1 x2 x3 x4 y0 x6 x7 x8 x9 x10) ([1, 2, 3, 4, 5, 6, 7, 8] : List Nat) (saleW 5 y1) = compW x0 y1 x2 x3 x4 y0 x6 x7 x8 x9 x10 := xput_blk (topW 0 x0) (saleW 1 x1) (saleW 9 x2 ++ (saleW 17 x3 ++ (outW 25 x4 ++ (billW 30 y0 ++ (seaW 35 x6 ++ (scrW 38 x7 ++ (prtW 45 x8 ++ (row5 47 x9 ++ (row7 48 x10))))))))) (saleW 5 y1) rfl
  have e2 : xput ([30, 31, 32, 33, 34, 1, 2, 3, 4, 5, 6, 7, 8, 25, 26, 27, 28, 29] : List Nat) (compW x0 x1 x2 x3 x4 x5 x6 x7 x8 x9 x10).length (compW x0 y1 x2 x3 x4 y0 x6 x7 x8 x9 x10) ([25, 26, 27, 28, 29] : List Nat) (outW 13 y2) = compW x0 y1 x2 x3 y2 y0 x6 x7 x8 x9 x10 := xput_blk (topW 0 x0 ++ (saleW 1 y1 ++ (saleW 9 x2 ++ (saleW 17 x3)))) (outW 25 x4) (billW 30 y0 ++ (seaW 35 x6 ++ (scrW 38 x7 ++ (prtW 45 x8 ++ (row5 47 x9 ++ (row7 48 x10)))))) (outW 13 y2) rfl
  refine (xput_app ([30, 31, 32, 33, 34, 1, 2, 3, 4, 5, 6, 7, 8] : List Nat) ([25, 26, 27, 28, 29] : List Nat) _ (billW 0 y0 ++ saleW 5 y1) (outW 13 y2) rfl).trans ?_
  have f1 := xput_app (is0 := ([30, 31, 32, 33, 34, 1, 2, 3, 4, 5, 6, 7, 8, 25, 26, 27, 28, 29] : List Nat)) (n := (compW x0 x1 x2 x3 x4 x5 x6 x7 x8 x9 x10).length) ([30, 31, 32, 33, 34] : List Nat) ([1, 2, 3, 4, 5, 6, 7, 8] : List Nat) (compW x0 x1 x2 x3 x4 x5 x6 x7 x8 x9 x10) (billW 0 y0) (saleW 5 y1) rfl
  have g1 : xput ([30, 31, 32, 33, 34, 1, 2, 3, 4, 5, 6, 7, 8, 25, 26, 27, 28, 29] : List Nat) (compW x0 x1 x2 x3 x4 x5 x6 x7 x8 x9 x10).length (compW x0 x1 x2 x3 x4 x5 x6 x7 x8 x9 x10) ([30, 31, 32, 33, 34, 1, 2, 3, 4, 5, 6, 7, 8] : List Nat) (billW 0 y0 ++ saleW 5 y1) = _ := f1.trans ((congrArg (fun t => xput ([30, 31, 32, 33, 34, 1, 2, 3, 4, 5, 6, 7, 8, 25, 26, 27, 28, 29] : List Nat) (compW x0 x1 x2 x3 x4 x5 x6 x7 x8 x9 x10).length t ([1, 2, 3, 4, 5, 6, 7, 8] : List Nat) (saleW 5 y1)) e0).trans e1)
  exact (congrArg (fun t => xput ([30, 31, 32, 33, 34, 1, 2, 3, 4, 5, 6, 7, 8, 25, 26, 27, 28, 29] : List Nat) (compW x0 x1 x2 x3 x4 x5 x6 x7 x8 x9 x10).length t ([25, 26, 27, 28, 29] : List Nat) (outW 13 y2)) g1).trans e2
theorem bX6_charge_0_5 {l : Launch} {E : XE} : Snd l E mX6_charge 0 5 (xs [x_aload 0, x_get 7 3, x_aload 1]) := Snd.cons (snd_aload_n (i := 0) dX6_charge_0 rfl) (Snd.cons (snd_get (ci := 7) (k := 3) dX6_charge_1 rfl inX6 (by decide) tw_210) (Snd.cons (snd_aload_n (i := 1) dX6_charge_4 rfl) Snd.nil))
theorem bX6_charge_8_17 {l : Launch} {E : XE} : Snd l E mX6_charge 8 17 (xs [x_aload 0, x_get 7 4, x_aload 1, x_aload 0, x_get 7 3]) := Snd.cons (snd_aload_n (i := 0) dX6_charge_8 rfl) (Snd.cons (snd_get (ci := 7) (k := 4) dX6_charge_9 rfl inX6 (by decide) tw_211) (Snd.cons (snd_aload_n (i := 1) dX6_charge_12 rfl) (Snd.cons (snd_aload_n (i := 0) dX6_charge_13 rfl) (Snd.cons (snd_get (ci := 7) (k := 3) dX6_charge_14 rfl inX6 (by decide) tw_210) Snd.nil))))
set_option maxHeartbeats 4000000 in
set_option maxRecDepth 100000 in
theorem m_X6_charge_S {l : Launch} {E : XE} (T : TopN) (S P U : SaleN) (O : OutN) (B : BillN) (Q : SeaN) (C : ScrN) (R : PrtN) (tl rf : Nat → Nat) (hS : SaleOK S) : MetE l E mX6_charge (4) 0 0 [.ref 0, .ref 1] (compW T S P U O B Q C R tl rf) (fun r w' => r = none ∧ ∃ O' : OutN, w' = compW T S P U (O') ((chB S B.li B.gw B.un B.lc)) Q C R tl rf ∧ KeysL O' (keysOf S (packsN S S.ca))) := by
  refine MetE.of (by decide +kernel) (Nat.le_of_ble_eq_true rfl) ?_
  refine ev_eq (lv' := [(0, .ref 0), (1, .ref 1)]) (st' := []) (w' := compW T S P U O B Q C R tl rf) rfl rfl rfl ?_
  refine ev_b bX6_charge_0_5 (lv' := [(0, .ref 0), (1, .ref 1)]) (st' := [.ref 1, .ref 25]) (w2 := compW T S P U O B Q C R tl rf) rfl ?_
  refine ev_callVN (Yc := mX1_gather) [25, 26, 27, 28, 29, 1, 2, 3, 4, 5, 6, 7, 8] dX6_charge_5 tn_497 kX1_gather (m_X1_gather O S hS) rfl (st := []) rfl rfl rfl (by decide) hw_comp__25_1 (by decide) (Nat.le_of_ble_eq_true rfl) (Nat.le_refl _) (Nat.le_refl _) (fun r w' h => by obtain ⟨-, O', rfl, -⟩ := h; exact Nat.le_of_ble_eq_true rfl) ?_
  rintro _ _ ⟨rfl, O1, rfl, hK1⟩
  refine ev_eq (lv' := [(0, .ref 0), (1, .ref 1)]) (st' := []) (w' := compW T S P U O1 B Q C R tl rf) rfl rfl xp_comp__25_1 ?_
  refine ev_b bX6_charge_8_17 (lv' := [(0, .ref 0), (1, .ref 1)]) (st' := [.ref 25, .ref 1, .ref 30]) (w2 := compW T S P U O1 B Q C R tl rf) rfl ?_
  refine ev_callVN (Yc := mX0_charge) [30, 31, 32, 33, 34, 1, 2, 3, 4, 5, 6, 7, 8, 25, 26, 27, 28, 29] dX6_charge_17 tn_592 kX0_charge (m_X0_charge B S O1 hS hK1) rfl (st := []) rfl rfl rfl (by decide) hw_comp__30_1_25 (by decide) (Nat.le_of_ble_eq_true rfl) (Nat.le_refl _) (Nat.le_refl _) (fun r w' h => by obtain ⟨-, rfl⟩ := h; exact Nat.le_of_ble_eq_true rfl) ?_
  rintro _ _ ⟨rfl, rfl⟩
  refine ev_eq (lv' := [(0, .ref 0), (1, .ref 1)]) (st' := []) (w' := compW T S P U O1 ((chB S B.li B.gw B.un B.lc)) Q C R tl rf) rfl rfl xp_comp__30_1_25 ?_
  exact ev_vret dX6_charge_20 rfl (Nat.le_refl 49) (Nat.le_refl _) (Nat.le_refl _) ⟨rfl, _, rfl, hK1⟩
theorem hw_comp__30_17_25 {x0 : TopN} {x1 : SaleN} {x2 : SaleN} {x3 : SaleN} {x4 : OutN} {x5 : BillN} {x6 : SeaN} {x7 : ScrN} {x8 : PrtN} {x9 : Nat → Nat} {x10 : Nat → Nat} : ([30, 31, 32, 33, 34, 17, 18, 19, 20, 21, 22, 23, 24, 25, 26, 27, 28, 29] : List Nat).map (fun i => (compW x0 x1 x2 x3 x4 x5 x6 x7 x8 x9 x10)[i]?) = (billW 0 x5 ++ saleW 5 x3 ++ outW 13 x4).map (fun e => some (xr ([30, 31, 32, 33, 34, 17, 18, 19, 20, 21, 22, 23, 24, 25, 26, 27, 28, 29] : List Nat) (compW x0 x1 x2 x3 x4 x5 x6 x7 x8 x9 x10).length e)) := rfl
theorem xp_comp__30_17_25 {x0 : TopN} {x1 : SaleN} {x2 : SaleN} {x3 : SaleN} {x4 : OutN} {x5 : BillN} {x6 : SeaN} {x7 : ScrN} {x8 : PrtN} {x9 : Nat → Nat} {x10 : Nat → Nat} {y0 : BillN} {y1 : SaleN} {y2 : OutN} : xput ([30, 31, 32, 33, 34, 17, 18, 19, 20, 21, 22, 23, 24, 25, 26, 27, 28, 29] : List Nat) (compW x0 x1 x2 x3 x4 x5 x6 x7 x8 x9 x10).length (compW x0 x1 x2 x3 x4 x5 x6 x7 x8 x9 x10) ([30, 31, 32, 33, 34, 17, 18, 19, 20, 21, 22, 23, 24, 25, 26, 27, 28, 29] : List Nat) (billW 0 y0 ++ saleW 5 y1 ++ outW 13 y2) = compW x0 x1 x2 y1 y2 y0 x6 x7 x8 x9 x10 := by
  have e0 : xput ([30, 31, 32, 33, 34, 17, 18, 19, 20, 21, 22, 23, 24, 25, 26, 27, 28, 29] : List Nat) (compW x0 x1 x2 x3 x4 x5 x6 x7 x8 x9 x10).length (compW x0 x1 x2 x3 x4 x5 x6 x7 x8 x9 x10) ([30, 31, 32, 33, 34] : List Nat) (billW 0 y0) = compW x0 x1 x2 x3 x4 y0 x6 x7 x8 x9 x10 := xput_blk (topW 0 x0 ++ (saleW 1 x1 ++ (saleW 9 x2 ++ (saleW 17 x3 ++ (outW 25 x4))))) (billW 30 x5) (seaW 35 x6 ++ (scrW 38 x7 ++ (prtW 45 x8 ++ (row5 47 x9 ++ (row7 48 x10))))) (billW 0 y0) rfl
  have e1 : xput ([30, 31, 32, 33, 34, 17, 18, 19, 20, 21, 22, 23, 24, 25, 26, 27, 28, 29] : List Nat) (compW x0 x1 x2 x3 x4 x5 x6 x7 x8 x9 x10).length (compW x0 x1 x2 x3 x4 y0 x6 x7 x8 x9 x10) ([17, 18, 19, 20, 21, 22, 23, 24] : List Nat) (saleW 5 y1) = compW x0 x1 x2 y1 x4 y0 x6 x7 x8 x9 x10 := xput_blk (topW 0 x0 ++ (saleW 1 x1 ++ (saleW 9 x2))) (saleW 17 x3) (outW 25 x4 ++ (billW 30 y0 ++ (seaW 35 x6 ++ (scrW 38 x7 ++ (prtW 45 x8 ++ (row5 47 x9 ++ (row7 48 x10))))))) (saleW 5 y1) rfl
  have e2 : xput ([30, 31, 32, 33, 34, 17, 18, 19, 20, 21, 22, 23, 24, 25, 26, 27, 28, 29] : List Nat) (compW x0 x1 x2 x3 x4 x5 x6 x7 x8 x9 x10).length (compW x0 x1 x2 y1 x4 y0 x6 x7 x8 x9 x10) ([25, 26, 27, 28, 29] : List Nat) (outW 13 y2) = compW x0 x1 x2 y1 y2 y0 x6 x7 x8 x9 x10 := xput_blk (topW 0 x0 ++ (saleW 1 x1 ++ (saleW 9 x2 ++ (saleW 17 y1)))) (outW 25 x4) (billW 30 y0 ++ (seaW 35 x6 ++ (scrW 38 x7 ++ (prtW 45 x8 ++ (row5 47 x9 ++ (row7 48 x10)))))) (outW 13 y2) rfl
  refine (xput_app ([30, 31, 32, 33, 34, 17, 18, 19, 20, 21, 22, 23, 24] : List Nat) ([25, 26, 27, 28, 29] : List Nat) _ (billW 0 y0 ++ saleW 5 y1) (outW 13 y2) rfl).trans ?_
  have f1 := xput_app (is0 := ([30, 31, 32, 33, 34, 17, 18, 19, 20, 21, 22, 23, 24, 25, 26, 27, 28, 29] : List Nat)) (n := (compW x0 x1 x2 x3 x4 x5 x6 x7 x8 x9 x10).length) ([30, 31, 32, 33, 34] : List Nat) ([17, 18, 19, 20, 21, 22, 23, 24] : List Nat) (compW x0 x1 x2 x3 x4 x5 x6 x7 x8 x9 x10) (billW 0 y0) (saleW 5 y1) rfl
  have g1 : xput ([30, 31, 32, 33, 34, 17, 18, 19, 20, 21, 22, 23, 24, 25, 26, 27, 28, 29] : List Nat) (compW x0 x1 x2 x3 x4 x5 x6 x7 x8 x9 x10).length (compW x0 x1 x2 x3 x4 x5 x6 x7 x8 x9 x10) ([30, 31, 32, 33, 34, 17, 18, 19, 20, 21, 22, 23, 24] : List Nat) (billW 0 y0 ++ saleW 5 y1) = _ := f1.trans ((congrArg (fun t => xput ([30, 31, 32, 33, 34, 17, 18, 19, 20, 21, 22, 23, 24, 25, 26, 27, 28, 29] : List Nat) (compW x0 x1 x2 x3 x4 x5 x6 x7 x8 x9 x10).length t ([17, 18, 19, 20, 21, 22, 23, 24] : List Nat) (saleW 5 y1)) e0).trans e1)
  exact (congrArg (fun t => xput ([30, 31, 32, 33, 34, 17, 18, 19, 20, 21, 22, 23, 24, 25, 26, 27, 28, 29] : List Nat) (compW x0 x1 x2 x3 x4 x5 x6 x7 x8 x9 x10).length t ([25, 26, 27, 28, 29] : List Nat) (outW 13 y2)) g1).trans e2
set_option maxHeartbeats 4000000 in
set_option maxRecDepth 100000 in
theorem m_X6_charge_U {l : Launch} {E : XE} (T : TopN) (S P U : SaleN) (O : OutN) (B : BillN) (Q : SeaN) (C : ScrN) (R : PrtN) (tl rf : Nat → Nat) (hU : SaleOK U) : MetE l E mX6_charge (4) 0 0 [.ref 0, .ref 17] (compW T S P U O B Q C R tl rf) (fun r w' => r = none ∧ ∃ O' : OutN, w' = compW T S P U (O') ((chB U B.li B.gw B.un B.lc)) Q C R tl rf ∧ KeysL O' (keysOf U (packsN U U.ca))) := by
  refine MetE.of (by decide +kernel) (Nat.le_of_ble_eq_true rfl) ?_
  refine ev_eq (lv' := [(0, .ref 0), (1, .ref 17)]) (st' := []) (w' := compW T S P U O B Q C R tl rf) rfl rfl rfl ?_
  refine ev_b bX6_charge_0_5 (lv' := [(0, .ref 0), (1, .ref 17)]) (st' := [.ref 17, .ref 25]) (w2 := compW T S P U O B Q C R tl rf) rfl ?_
  refine ev_callVN (Yc := mX1_gather) [25, 26, 27, 28, 29, 17, 18, 19, 20, 21, 22, 23, 24] dX6_charge_5 tn_497 kX1_gather (m_X1_gather O U hU) rfl (st := []) rfl rfl rfl (by decide) hw_comp__25_17 (by decide) (Nat.le_of_ble_eq_true rfl) (Nat.le_refl _) (Nat.le_refl _) (fun r w' h => by obtain ⟨-, O', rfl, -⟩ := h; exact Nat.le_of_ble_eq_true rfl) ?_
  rintro _ _ ⟨rfl, O1, rfl, hK1⟩
  refine ev_eq (lv' := [(0, .ref 0), (1, .ref 17)]) (st' := []) (w' := compW T S P U O1 B Q C R tl rf) rfl rfl xp_comp__25_17 ?_
  refine ev_b bX6_charge_8_17 (lv' := [(0, .ref 0), (1, .ref 17)]) (st' := [.ref 25, .ref 17, .ref 30]) (w2 := compW T S P U O1 B Q C R tl rf) rfl ?_
  refine ev_callVN (Yc := mX0_charge) [30, 31, 32, 33, 34, 17, 18, 19, 20, 21, 22, 23, 24, 25, 26, 27, 28, 29] dX6_charge_17 tn_592 kX0_charge (m_X0_charge B U O1 hU hK1) rfl (st := []) rfl rfl rfl (by decide) hw_comp__30_17_25 (by decide) (Nat.le_of_ble_eq_true rfl) (Nat.le_refl _) (Nat.le_refl _) (fun r w' h => by obtain ⟨-, rfl⟩ := h; exact Nat.le_of_ble_eq_true rfl) ?_
  rintro _ _ ⟨rfl, rfl⟩
  refine ev_eq (lv' := [(0, .ref 0), (1, .ref 17)]) (st' := []) (w' := compW T S P U O1 ((chB U B.li B.gw B.un B.lc)) Q C R tl rf) rfl rfl xp_comp__30_17_25 ?_
  exact ev_vret dX6_charge_20 rfl (Nat.le_refl 49) (Nat.le_refl _) (Nat.le_refl _) ⟨rfl, _, rfl, hK1⟩
theorem bX6_chargeAndLift_0_5 {l : Launch} {E : XE} : Snd l E mX6_chargeAndLift 0 5 (xs [x_aload 0, x_aload 0, x_get 7 0]) := Snd.cons (snd_aload_n (i := 0) dX6_chargeAndLift_0 rfl) (Snd.cons (snd_aload_n (i := 0) dX6_chargeAndLift_1 rfl) (Snd.cons (snd_get (ci := 7) (k := 0) dX6_chargeAndLift_2 rfl inX6 (by decide) tw_207) Snd.nil))
theorem bX6_chargeAndLift_8_20 {l : Launch} {E : XE} : Snd l E mX6_chargeAndLift 8 20 (xs [x_aload 0, x_get 7 4, x_aload 0, x_get 7 0, x_aload 0, x_get 7 3]) := Snd.cons (snd_aload_n (i := 0) dX6_chargeAndLift_8 rfl) (Snd.cons (snd_get (ci := 7) (k := 4) dX6_chargeAndLift_9 rfl inX6 (by decide) tw_211) (Snd.cons (snd_aload_n (i := 0) dX6_chargeAndLift_12 rfl) (Snd.cons (snd_get (ci := 7) (k := 0) dX6_chargeAndLift_13 rfl inX6 (by decide) tw_207) (Snd.cons (snd_aload_n (i := 0) dX6_chargeAndLift_16 rfl) (Snd.cons (snd_get (ci := 7) (k := 3) dX6_chargeAndLift_17 rfl inX6 (by decide) tw_210) Snd.nil)))))
set_option maxHeartbeats 4000000 in
set_option maxRecDepth 100000 in
theorem m_X6_chargeAndLift {l : Launch} {E : XE} (T : TopN) (S P U : SaleN) (O : OutN) (B : BillN) (Q : SeaN) (C : ScrN) (R : PrtN) (tl rf : Nat → Nat) (n : Nat) (hS : SaleOK S) (hn : LiftsTo S n) : MetE l E mX6_chargeAndLift (5) 0 0 [.ref 0] (compW T S P U O B Q C R tl rf) (fun r w' => r = none ∧ ∃ O' : OutN, w' = compW T S P U (O') ((lfB S (itS S n) n)) Q C R tl rf ∧ KeysL O' (keysOf S (packsN S S.ca))) := by
  refine MetE.of (by decide +kernel) (Nat.le_of_ble_eq_true rfl) ?_
  refine ev_eq (lv' := [(0, .ref 0)]) (st' := []) (w' := compW T S P U O B Q C R tl rf) rfl rfl rfl ?_
  refine ev_b bX6_chargeAndLift_0_5 (lv' := [(0, .ref 0)]) (st' := [.ref 1, .ref 0]) (w2 := compW T S P U O B Q C R tl rf) rfl ?_
  refine ev_callV (Yc := mX6_charge) (rng 0 49) dX6_chargeAndLift_5 tw_588 kX6_charge (m_X6_charge_S T S P U O B Q C R tl rf hS) rfl (st := []) rfl rfl rfl (by decide) (same_hw (compW T S P U O B Q C R tl rf)) (by decide) (Nat.le_of_ble_eq_true rfl) (Nat.le_refl _) (Nat.le_refl _) (fun r w' h => by obtain ⟨-, O', rfl, -⟩ := h; exact Nat.le_refl 49) ?_
  rintro _ _ ⟨rfl, O1, rfl, hK1⟩
  refine ev_eq (lv' := [(0, .ref 0)]) (st' := []) (w' := compW T S P U O1 ((chB S B.li B.gw B.un B.lc)) Q C R tl rf) rfl rfl (same_xp (compW T S P U O B Q C R tl rf) (compW T S P U O1 ((chB S B.li B.gw B.un B.lc)) Q C R tl rf) rfl) ?_
  refine ev_b bX6_chargeAndLift_8_20 (lv' := [(0, .ref 0)]) (st' := [.ref 25, .ref 1, .ref 30]) (w2 := compW T S P U O1 ((chB S B.li B.gw B.un B.lc)) Q C R tl rf) rfl ?_
  refine ev_callVN (Yc := mX0_lift) [30, 31, 32, 33, 34, 1, 2, 3, 4, 5, 6, 7, 8, 25, 26, 27, 28, 29] dX6_chargeAndLift_20 tn_718 kX0_lift (m_X0_lift S O1 B.li B.gw B.un B.lc n hS hK1 hn) rfl (st := []) rfl rfl rfl (by decide) hw_comp__30_1_25 (by decide) (Nat.le_of_ble_eq_true rfl) (Nat.le_refl _) (Nat.le_refl _) (fun r w' h => by obtain ⟨-, rfl⟩ := h; exact Nat.le_of_ble_eq_true rfl) ?_
  rintro _ _ ⟨rfl, rfl⟩
  refine ev_eq (lv' := [(0, .ref 0)]) (st' := []) (w' := compW T S P U O1 ((lfB S (itS S n) n)) Q C R tl rf) rfl rfl xp_comp__30_1_25 ?_
  exact ev_vret dX6_chargeAndLift_23 rfl (Nat.le_refl 49) (Nat.le_refl _) (Nat.le_refl _) ⟨rfl, _, rfl, hK1⟩
theorem bX6_refuse_0_1 {l : Launch} {E : XE} : Snd l E mX6_refuse 0 1 (xs [x_iload 1]) := Snd.cons (snd_iload_n (i := 1) dX6_refuse_0 rfl) Snd.nil
theorem bX6_refuse_2_4 {l : Launch} {E : XE} : Snd l E mX6_refuse 2 4 (xs [x_istore 2, x_iload 2]) := Snd.cons (snd_istore_n (i := 2) dX6_refuse_2 rfl (by decide)) (Snd.cons (snd_iload_n (i := 2) dX6_refuse_3 rfl) Snd.nil)
theorem bX6_refuse_7_13 {l : Launch} {E : XE} : Snd l E mX6_refuse 7 13 (xs [x_iload 2, x_aload 0, x_get 7 9, x_len]) := Snd.cons (snd_iload_n (i := 2) dX6_refuse_7 rfl) (Snd.cons (snd_aload_n (i := 0) dX6_refuse_8 rfl) (Snd.cons (snd_get (ci := 7) (k := 9) dX6_refuse_9 rfl inX6 (by decide) tw_216) (Snd.cons (snd_len dX6_refuse_12) Snd.nil)))
theorem bX6_refuse_16_22 {l : Launch} {E : XE} : Snd l E mX6_refuse 16 22 (xs [x_aload 0, x_get 7 9, x_iload 2, x_dup2]) := Snd.cons (snd_aload_n (i := 0) dX6_refuse_16 rfl) (Snd.cons (snd_get (ci := 7) (k := 9) dX6_refuse_17 rfl inX6 (by decide) tw_216) (Snd.cons (snd_iload_n (i := 2) dX6_refuse_20 rfl) (Snd.cons (snd_dup2 dX6_refuse_21) Snd.nil)))
theorem bX6_refuse_23_24 {l : Launch} {E : XE} : Snd l E mX6_refuse 23 24 (xs [x_push (.int (nI 1))]) := Snd.cons (snd_iconst (v := nI 1) dX6_refuse_23 (by decide)) Snd.nil
theorem bX6_refuse_26_27 {l : Launch} {E : XE} : Snd l E mX6_refuse 26 27 (xs [x_iload 1]) := Snd.cons (snd_iload_n (i := 1) dX6_refuse_26 rfl) Snd.nil
set_option maxHeartbeats 4000000 in
set_option maxRecDepth 100000 in
theorem m_X6_refuse_1 {l : Launch} {E : XE} (T : TopN) (S P U : SaleN) (O : OutN) (B : BillN) (Q : SeaN) (C : ScrN) (R : PrtN) (tl rf : Nat → Nat)  : MetE l E mX6_refuse (0) 0 0 [.ref 0, .int (-1)] (compW T S P U O B Q C R tl rf) (fun r w' => r = some (.int (-1)) ∧ w' = compW T S P U O B Q C R tl ((up rf 1 (rf 1 + 1)))) := by
  refine MetE.of (by decide +kernel) (Nat.le_of_ble_eq_true rfl) ?_
  refine ev_eq (lv' := [(0, .ref 0), (1, .int (-1))]) (st' := []) (w' := compW T S P U O B Q C R tl rf) rfl rfl rfl ?_
  refine ev_b bX6_refuse_0_1 (lv' := [(0, .ref 0), (1, .int (-1))]) (st' := [.int (-1)]) (w2 := compW T S P U O B Q C R tl rf) rfl ?_
  refine ev_top (y := zI (-1)) (by decide) ?_
  refine ev_ineg_z dX6_refuse_1 ?_
  refine ev_top (y := (nI (1))) (by rw [show -(-1) = ((1 : Nat) : Int) from by omega]; exact zI_nat _) ?_
  refine ev_b bX6_refuse_2_4 (lv' := [(2, .int (nI (1))), (0, .ref 0), (1, .int (-1))]) (st' := [.int (nI (1))]) (w2 := compW T S P U O B Q C R tl rf) rfl ?_
  refine ev_if_lt_n (tgt := 26) (by decide) dX6_refuse_4 (by decide) (fun h4 => (by exfalso; omega)) (fun h4 => ?_)
  refine ev_b bX6_refuse_7_13 (lv' := [(2, .int (nI (1))), (0, .ref 0), (1, .int (-1))]) (st' := [.int (nI (7)), .int (nI (1))]) (w2 := compW T S P U O B Q C R tl rf) rfl ?_
  refine ev_icmp_ge_n (tgt := 26) (by decide) (by decide) dX6_refuse_13 (by decide) (fun h13 => (by exfalso; omega)) (fun h13 => ?_)
  refine ev_b bX6_refuse_16_22 (lv' := [(2, .int (nI (1))), (0, .ref 0), (1, .int (-1))]) (st' := [.int (nI (1)), .ref 48, .int (nI (1)), .ref 48]) (w2 := compW T S P U O B Q C R tl rf) rfl ?_
  refine ev_iald_n (f := rf) dX6_refuse_22 rfl (by omega) (by decide) ?_
  refine ev_b bX6_refuse_23_24 (lv' := [(2, .int (nI (1))), (0, .ref 0), (1, .int (-1))]) (st' := [.int (nI (1)), .int (nI (rf 1)), .int (nI (1)), .ref 48]) (w2 := compW T S P U O B Q C R tl rf) rfl ?_
  refine ev_iadd_n dX6_refuse_24 ?_
  refine ev_iast_n (f := rf) dX6_refuse_25 rfl (by omega) (by decide) ?_
  refine ev_eq (w' := compW T S P U O B Q C R tl (up rf 1 ((rf 1) + 1))) rfl rfl rfl ?_
  refine ev_b bX6_refuse_26_27 (lv' := [(2, .int (nI (1))), (0, .ref 0), (1, .int (-1))]) (st' := [.int (-1)]) (w2 := compW T S P U O B Q C R tl (up rf 1 ((rf 1) + 1))) rfl ?_
  exact ev_iret dX6_refuse_27 rfl (Nat.le_refl 49) (Nat.le_refl _) (Nat.le_refl _) ⟨rfl, (by rfl)⟩
theorem bX6_refuseLong_0_5 {l : Launch} {E : XE} : Snd l E mX6_refuseLong 0 5 (xs [x_push (.long (4000000000000000000)), x_aload 0, x_iload 1]) := Snd.cons (snd_ldc2 (v := 4000000000000000000) dX6_refuseLong_0 tw_804) (Snd.cons (snd_aload_n (i := 0) dX6_refuseLong_3 rfl) (Snd.cons (snd_iload_n (i := 1) dX6_refuseLong_4 rfl) Snd.nil))
theorem bX6_refuseLong_8_10 {l : Launch} {E : XE} : Snd l E mX6_refuseLong 8 10 (xs [x_i2l, x_l2 (fun x y => x - y)]) := Snd.cons (snd_i2l dX6_refuseLong_8) (Snd.cons (snd_lsub dX6_refuseLong_9) Snd.nil)
set_option maxHeartbeats 4000000 in
set_option maxRecDepth 100000 in
theorem m_X6_refuseLong_1 {l : Launch} {E : XE} (T : TopN) (S P U : SaleN) (O : OutN) (B : BillN) (Q : SeaN) (C : ScrN) (R : PrtN) (tl rf : Nat → Nat)  : MetE l E mX6_refuseLong (1) 0 0 [.ref 0, .int (-1)] (compW T S P U O B Q C R tl rf) (fun r w' => r = some (.long (4000000000000000000 - (Int32.toInt64 (-1)))) ∧ w' = compW T S P U O B Q C R tl ((up rf 1 (rf 1 + 1)))) := by
  refine MetE.of (by decide +kernel) (Nat.le_of_ble_eq_true rfl) ?_
  refine ev_eq (lv' := [(0, .ref 0), (1, .int (-1))]) (st' := []) (w' := compW T S P U O B Q C R tl rf) rfl rfl rfl ?_
  refine ev_b bX6_refuseLong_0_5 (lv' := [(0, .ref 0), (1, .int (-1))]) (st' := [.int (-1), .ref 0, .long (4000000000000000000)]) (w2 := compW T S P U O B Q C R tl rf) rfl ?_
  refine ev_callV (Yc := mX6_refuse) (rng 0 49) dX6_refuseLong_5 tw_248 kX6_refuse (m_X6_refuse_1 T S P U O B Q C R tl rf) rfl (st := [.long (4000000000000000000)]) rfl rfl rfl (by decide) (same_hw (compW T S P U O B Q C R tl rf)) (by decide) (Nat.le_of_ble_eq_true rfl) (Nat.le_refl _) (Nat.le_refl _) (fun r w' h => by obtain ⟨-, rfl⟩ := h; exact Nat.le_of_ble_eq_true rfl) ?_
  rintro _ _ ⟨rfl, rfl⟩
  refine ev_eq (lv' := [(0, .ref 0), (1, .int (-1))]) (st' := [.int (-1), .long (4000000000000000000)]) (w' := compW T S P U O B Q C R tl ((up rf 1 (rf 1 + 1)))) rfl rfl (same_xp (compW T S P U O B Q C R tl rf) (compW T S P U O B Q C R tl ((up rf 1 (rf 1 + 1)))) rfl) ?_
  refine ev_b bX6_refuseLong_8_10 (lv' := [(0, .ref 0), (1, .int (-1))]) (st' := [.long (4000000000000000000 - (Int32.toInt64 ((-1))))]) (w2 := compW T S P U O B Q C R tl ((up rf 1 (rf 1 + 1)))) rfl ?_
  exact ev_lret dX6_refuseLong_10 rfl (Nat.le_refl 49) (Nat.le_refl _) (Nat.le_refl _) ⟨(by rfl), rfl⟩
set_option maxHeartbeats 4000000 in
set_option maxRecDepth 100000 in
theorem m_X6_refuse_2 {l : Launch} {E : XE} (T : TopN) (S P U : SaleN) (O : OutN) (B : BillN) (Q : SeaN) (C : ScrN) (R : PrtN) (tl rf : Nat → Nat)  : MetE l E mX6_refuse (0) 0 0 [.ref 0, .int (-2)] (compW T S P U O B Q C R tl rf) (fun r w' => r = some (.int (-2)) ∧ w' = compW T S P U O B Q C R tl ((up rf 2 (rf 2 + 1)))) := by
  refine MetE.of (by decide +kernel) (Nat.le_of_ble_eq_true rfl) ?_
  refine ev_eq (lv' := [(0, .ref 0), (1, .int (-2))]) (st' := []) (w' := compW T S P U O B Q C R tl rf) rfl rfl rfl ?_
  refine ev_b bX6_refuse_0_1 (lv' := [(0, .ref 0), (1, .int (-2))]) (st' := [.int (-2)]) (w2 := compW T S P U O B Q C R tl rf) rfl ?_
  refine ev_top (y := zI (-2)) (by decide) ?_
  refine ev_ineg_z dX6_refuse_1 ?_
  refine ev_top (y := (nI (2))) (by rw [show -(-2) = ((2 : Nat) : Int) from by omega]; exact zI_nat _) ?_
  refine ev_b bX6_refuse_2_4 (lv' := [(2, .int (nI (2))), (0, .ref 0), (1, .int (-2))]) (st' := [.int (nI (2))]) (w2 := compW T S P U O B Q C R tl rf) rfl ?_
  refine ev_if_lt_n (tgt := 26) (by decide) dX6_refuse_4 (by decide) (fun h4 => (by exfalso; omega)) (fun h4 => ?_)
  refine ev_b bX6_refuse_7_13 (lv' := [(2, .int (nI (2))), (0, .ref 0), (1, .int (-2))]) (st' := [.int (nI (7)), .int (nI (2))]) (w2 := compW T S P U O B Q C R tl rf) rfl ?_
  refine ev_icmp_ge_n (tgt := 26) (by decide) (by decide) dX6_refuse_13 (by decide) (fun h13 => (by exfalso; omega)) (fun h13 => ?_)
  refine ev_b bX6_refuse_16_22 (lv' := [(2, .int (nI (2))), (0, .ref 0), (1, .int (-2))]) (st' := [.int (nI (2)), .ref 48, .int (nI (2)), .ref 48]) (w2 := compW T S P U O B Q C R tl rf) rfl ?_
  refine ev_iald_n (f := rf) dX6_refuse_22 rfl (by omega) (by decide) ?_
  refine ev_b bX6_refuse_23_24 (lv' := [(2, .int (nI (2))), (0, .ref 0), (1, .int (-2))]) (st' := [.int (nI (1)), .int (nI (rf 2)), .int (nI (2)), .ref 48]) (w2 := compW T S P U O B Q C R tl rf) rfl ?_
  refine ev_iadd_n dX6_refuse_24 ?_
  refine ev_iast_n (f := rf) dX6_refuse_25 rfl (by omega) (by decide) ?_
  refine ev_eq (w' := compW T S P U O B Q C R tl (up rf 2 ((rf 2) + 1))) rfl rfl rfl ?_
  refine ev_b bX6_refuse_26_27 (lv' := [(2, .int (nI (2))), (0, .ref 0), (1, .int (-2))]) (st' := [.int (-2)]) (w2 := compW T S P U O B Q C R tl (up rf 2 ((rf 2) + 1))) rfl ?_
  exact ev_iret dX6_refuse_27 rfl (Nat.le_refl 49) (Nat.le_refl _) (Nat.le_refl _) ⟨rfl, (by rfl)⟩
set_option maxHeartbeats 4000000 in
set_option maxRecDepth 100000 in
theorem m_X6_refuseLong_2 {l : Launch} {E : XE} (T : TopN) (S P U : SaleN) (O : OutN) (B : BillN) (Q : SeaN) (C : ScrN) (R : PrtN) (tl rf : Nat → Nat)  : MetE l E mX6_refuseLong (1) 0 0 [.ref 0, .int (-2)] (compW T S P U O B Q C R tl rf) (fun r w' => r = some (.long (4000000000000000000 - (Int32.toInt64 (-2)))) ∧ w' = compW T S P U O B Q C R tl ((up rf 2 (rf 2 + 1)))) := by
  refine MetE.of (by decide +kernel) (Nat.le_of_ble_eq_true rfl) ?_
  refine ev_eq (lv' := [(0, .ref 0), (1, .int (-2))]) (st' := []) (w' := compW T S P U O B Q C R tl rf) rfl rfl rfl ?_
  refine ev_b bX6_refuseLong_0_5 (lv' := [(0, .ref 0), (1, .int (-2))]) (st' := [.int (-2), .ref 0, .long (4000000000000000000)]) (w2 := compW T S P U O B Q C R tl rf) rfl ?_
  refine ev_callV (Yc := mX6_refuse) (rng 0 49) dX6_refuseLong_5 tw_248 kX6_refuse (m_X6_refuse_2 T S P U O B Q C R tl rf) rfl (st := [.long (4000000000000000000)]) rfl rfl rfl (by decide) (same_hw (compW T S P U O B Q C R tl rf)) (by decide) (Nat.le_of_ble_eq_true rfl) (Nat.le_refl _) (Nat.le_refl _) (fun r w' h => by obtain ⟨-, rfl⟩ := h; exact Nat.le_of_ble_eq_true rfl) ?_
  rintro _ _ ⟨rfl, rfl⟩
  refine ev_eq (lv' := [(0, .ref 0), (1, .int (-2))]) (st' := [.int (-2), .long (4000000000000000000)]) (w' := compW T S P U O B Q C R tl ((up rf 2 (rf 2 + 1)))) rfl rfl (same_xp (compW T S P U O B Q C R tl rf) (compW T S P U O B Q C R tl ((up rf 2 (rf 2 + 1)))) rfl) ?_
  refine ev_b bX6_refuseLong_8_10 (lv' := [(0, .ref 0), (1, .int (-2))]) (st' := [.long (4000000000000000000 - (Int32.toInt64 ((-2))))]) (w2 := compW T S P U O B Q C R tl ((up rf 2 (rf 2 + 1)))) rfl ?_
  exact ev_lret dX6_refuseLong_10 rfl (Nat.le_refl 49) (Nat.le_refl _) (Nat.le_refl _) ⟨(by rfl), rfl⟩
set_option maxHeartbeats 4000000 in
set_option maxRecDepth 100000 in
theorem m_X6_refuse_3 {l : Launch} {E : XE} (T : TopN) (S P U : SaleN) (O : OutN) (B : BillN) (Q : SeaN) (C : ScrN) (R : PrtN) (tl rf : Nat → Nat)  : MetE l E mX6_refuse (0) 0 0 [.ref 0, .int (-3)] (compW T S P U O B Q C R tl rf) (fun r w' => r = some (.int (-3)) ∧ w' = compW T S P U O B Q C R tl ((up rf 3 (rf 3 + 1)))) := by
  refine MetE.of (by decide +kernel) (Nat.le_of_ble_eq_true rfl) ?_
  refine ev_eq (lv' := [(0, .ref 0), (1, .int (-3))]) (st' := []) (w' := compW T S P U O B Q C R tl rf) rfl rfl rfl ?_
  refine ev_b bX6_refuse_0_1 (lv' := [(0, .ref 0), (1, .int (-3))]) (st' := [.int (-3)]) (w2 := compW T S P U O B Q C R tl rf) rfl ?_
  refine ev_top (y := zI (-3)) (by decide) ?_
  refine ev_ineg_z dX6_refuse_1 ?_
  refine ev_top (y := (nI (3))) (by rw [show -(-3) = ((3 : Nat) : Int) from by omega]; exact zI_nat _) ?_
  refine ev_b bX6_refuse_2_4 (lv' := [(2, .int (nI (3))), (0, .ref 0), (1, .int (-3))]) (st' := [.int (nI (3))]) (w2 := compW T S P U O B Q C R tl rf) rfl ?_
  refine ev_if_lt_n (tgt := 26) (by decide) dX6_refuse_4 (by decide) (fun h4 => (by exfalso; omega)) (fun h4 => ?_)
  refine ev_b bX6_refuse_7_13 (lv' := [(2, .int (nI (3))), (0, .ref 0), (1, .int (-3))]) (st' := [.int (nI (7)), .int (nI (3))]) (w2 := compW T S P U O B Q C R tl rf) rfl ?_
  refine ev_icmp_ge_n (tgt := 26) (by decide) (by decide) dX6_refuse_13 (by decide) (fun h13 => (by exfalso; omega)) (fun h13 => ?_)
  refine ev_b bX6_refuse_16_22 (lv' := [(2, .int (nI (3))), (0, .ref 0), (1, .int (-3))]) (st' := [.int (nI (3)), .ref 48, .int (nI (3)), .ref 48]) (w2 := compW T S P U O B Q C R tl rf) rfl ?_
  refine ev_iald_n (f := rf) dX6_refuse_22 rfl (by omega) (by decide) ?_
  refine ev_b bX6_refuse_23_24 (lv' := [(2, .int (nI (3))), (0, .ref 0), (1, .int (-3))]) (st' := [.int (nI (1)), .int (nI (rf 3)), .int (nI (3)), .ref 48]) (w2 := compW T S P U O B Q C R tl rf) rfl ?_
  refine ev_iadd_n dX6_refuse_24 ?_
  refine ev_iast_n (f := rf) dX6_refuse_25 rfl (by omega) (by decide) ?_
  refine ev_eq (w' := compW T S P U O B Q C R tl (up rf 3 ((rf 3) + 1))) rfl rfl rfl ?_
  refine ev_b bX6_refuse_26_27 (lv' := [(2, .int (nI (3))), (0, .ref 0), (1, .int (-3))]) (st' := [.int (-3)]) (w2 := compW T S P U O B Q C R tl (up rf 3 ((rf 3) + 1))) rfl ?_
  exact ev_iret dX6_refuse_27 rfl (Nat.le_refl 49) (Nat.le_refl _) (Nat.le_refl _) ⟨rfl, (by rfl)⟩
set_option maxHeartbeats 4000000 in
set_option maxRecDepth 100000 in
theorem m_X6_refuseLong_3 {l : Launch} {E : XE} (T : TopN) (S P U : SaleN) (O : OutN) (B : BillN) (Q : SeaN) (C : ScrN) (R : PrtN) (tl rf : Nat → Nat)  : MetE l E mX6_refuseLong (1) 0 0 [.ref 0, .int (-3)] (compW T S P U O B Q C R tl rf) (fun r w' => r = some (.long (4000000000000000000 - (Int32.toInt64 (-3)))) ∧ w' = compW T S P U O B Q C R tl ((up rf 3 (rf 3 + 1)))) := by
  refine MetE.of (by decide +kernel) (Nat.le_of_ble_eq_true rfl) ?_
  refine ev_eq (lv' := [(0, .ref 0), (1, .int (-3))]) (st' := []) (w' := compW T S P U O B Q C R tl rf) rfl rfl rfl ?_
  refine ev_b bX6_refuseLong_0_5 (lv' := [(0, .ref 0), (1, .int (-3))]) (st' := [.int (-3), .ref 0, .long (4000000000000000000)]) (w2 := compW T S P U O B Q C R tl rf) rfl ?_
  refine ev_callV (Yc := mX6_refuse) (rng 0 49) dX6_refuseLong_5 tw_248 kX6_refuse (m_X6_refuse_3 T S P U O B Q C R tl rf) rfl (st := [.long (4000000000000000000)]) rfl rfl rfl (by decide) (same_hw (compW T S P U O B Q C R tl rf)) (by decide) (Nat.le_of_ble_eq_true rfl) (Nat.le_refl _) (Nat.le_refl _) (fun r w' h => by obtain ⟨-, rfl⟩ := h; exact Nat.le_of_ble_eq_true rfl) ?_
  rintro _ _ ⟨rfl, rfl⟩
  refine ev_eq (lv' := [(0, .ref 0), (1, .int (-3))]) (st' := [.int (-3), .long (4000000000000000000)]) (w' := compW T S P U O B Q C R tl ((up rf 3 (rf 3 + 1)))) rfl rfl (same_xp (compW T S P U O B Q C R tl rf) (compW T S P U O B Q C R tl ((up rf 3 (rf 3 + 1)))) rfl) ?_
  refine ev_b bX6_refuseLong_8_10 (lv' := [(0, .ref 0), (1, .int (-3))]) (st' := [.long (4000000000000000000 - (Int32.toInt64 ((-3))))]) (w2 := compW T S P U O B Q C R tl ((up rf 3 (rf 3 + 1)))) rfl ?_
  exact ev_lret dX6_refuseLong_10 rfl (Nat.le_refl 49) (Nat.le_refl _) (Nat.le_refl _) ⟨(by rfl), rfl⟩
set_option maxHeartbeats 4000000 in
set_option maxRecDepth 100000 in
theorem m_X6_refuse_4 {l : Launch} {E : XE} (T : TopN) (S P U : SaleN) (O : OutN) (B : BillN) (Q : SeaN) (C : ScrN) (R : PrtN) (tl rf : Nat → Nat)  : MetE l E mX6_refuse (0) 0 0 [.ref 0, .int (-4)] (compW T S P U O B Q C R tl rf) (fun r w' => r = some (.int (-4)) ∧ w' = compW T S P U O B Q C R tl ((up rf 4 (rf 4 + 1)))) := by
  refine MetE.of (by decide +kernel) (Nat.le_of_ble_eq_true rfl) ?_
  refine ev_eq (lv' := [(0, .ref 0), (1, .int (-4))]) (st' := []) (w' := compW T S P U O B Q C R tl rf) rfl rfl rfl ?_
  refine ev_b bX6_refuse_0_1 (lv' := [(0, .ref 0), (1, .int (-4))]) (st' := [.int (-4)]) (w2 := compW T S P U O B Q C R tl rf) rfl ?_
  refine ev_top (y := zI (-4)) (by decide) ?_
  refine ev_ineg_z dX6_refuse_1 ?_
  refine ev_top (y := (nI (4))) (by rw [show -(-4) = ((4 : Nat) : Int) from by omega]; exact zI_nat _) ?_
  refine ev_b bX6_refuse_2_4 (lv' := [(2, .int (nI (4))), (0, .ref 0), (1, .int (-4))]) (st' := [.int (nI (4))]) (w2 := compW T S P U O B Q C R tl rf) rfl ?_
  refine ev_if_lt_n (tgt := 26) (by decide) dX6_refuse_4 (by decide) (fun h4 => (by exfalso; omega)) (fun h4 => ?_)
  refine ev_b bX6_refuse_7_13 (lv' := [(2, .int (nI (4))), (0, .ref 0), (1, .int (-4))]) (st' := [.int (nI (7)), .int (nI (4))]) (w2 := compW T S P U O B Q C R tl rf) rfl ?_
  refine ev_icmp_ge_n (tgt := 26) (by decide) (by decide) dX6_refuse_13 (by decide) (fun h13 => (by exfalso; omega)) (fun h13 => ?_)
  refine ev_b bX6_refuse_16_22 (lv' := [(2, .int (nI (4))), (0, .ref 0), (1, .int (-4))]) (st' := [.int (nI (4)), .ref 48, .int (nI (4)), .ref 48]) (w2 := compW T S P U O B Q C R tl rf) rfl ?_
  refine ev_iald_n (f := rf) dX6_refuse_22 rfl (by omega) (by decide) ?_
  refine ev_b bX6_refuse_23_24 (lv' := [(2, .int (nI (4))), (0, .ref 0), (1, .int (-4))]) (st' := [.int (nI (1)), .int (nI (rf 4)), .int (nI (4)), .ref 48]) (w2 := compW T S P U O B Q C R tl rf) rfl ?_
  refine ev_iadd_n dX6_refuse_24 ?_
  refine ev_iast_n (f := rf) dX6_refuse_25 rfl (by omega) (by decide) ?_
  refine ev_eq (w' := compW T S P U O B Q C R tl (up rf 4 ((rf 4) + 1))) rfl rfl rfl ?_
  refine ev_b bX6_refuse_26_27 (lv' := [(2, .int (nI (4))), (0, .ref 0), (1, .int (-4))]) (st' := [.int (-4)]) (w2 := compW T S P U O B Q C R tl (up rf 4 ((rf 4) + 1))) rfl ?_
  exact ev_iret dX6_refuse_27 rfl (Nat.le_refl 49) (Nat.le_refl _) (Nat.le_refl _) ⟨rfl, (by rfl)⟩
set_option maxHeartbeats 4000000 in
set_option maxRecDepth 100000 in
theorem m_X6_refuseLong_4 {l : Launch} {E : XE} (T : TopN) (S P U : SaleN) (O : OutN) (B : BillN) (Q : SeaN) (C : ScrN) (R : PrtN) (tl rf : Nat → Nat)  : MetE l E mX6_refuseLong (1) 0 0 [.ref 0, .int (-4)] (compW T S P U O B Q C R tl rf) (fun r w' => r = some (.long (4000000000000000000 - (Int32.toInt64 (-4)))) ∧ w' = compW T S P U O B Q C R tl ((up rf 4 (rf 4 + 1)))) := by
  refine MetE.of (by decide +kernel) (Nat.le_of_ble_eq_true rfl) ?_
  refine ev_eq (lv' := [(0, .ref 0), (1, .int (-4))]) (st' := []) (w' := compW T S P U O B Q C R tl rf) rfl rfl rfl ?_
  refine ev_b bX6_refuseLong_0_5 (lv' := [(0, .ref 0), (1, .int (-4))]) (st' := [.int (-4), .ref 0, .long (4000000000000000000)]) (w2 := compW T S P U O B Q C R tl rf) rfl ?_
  refine ev_callV (Yc := mX6_refuse) (rng 0 49) dX6_refuseLong_5 tw_248 kX6_refuse (m_X6_refuse_4 T S P U O B Q C R tl rf) rfl (st := [.long (4000000000000000000)]) rfl rfl rfl (by decide) (same_hw (compW T S P U O B Q C R tl rf)) (by decide) (Nat.le_of_ble_eq_true rfl) (Nat.le_refl _) (Nat.le_refl _) (fun r w' h => by obtain ⟨-, rfl⟩ := h; exact Nat.le_of_ble_eq_true rfl) ?_
  rintro _ _ ⟨rfl, rfl⟩
  refine ev_eq (lv' := [(0, .ref 0), (1, .int (-4))]) (st' := [.int (-4), .long (4000000000000000000)]) (w' := compW T S P U O B Q C R tl ((up rf 4 (rf 4 + 1)))) rfl rfl (same_xp (compW T S P U O B Q C R tl rf) (compW T S P U O B Q C R tl ((up rf 4 (rf 4 + 1)))) rfl) ?_
  refine ev_b bX6_refuseLong_8_10 (lv' := [(0, .ref 0), (1, .int (-4))]) (st' := [.long (4000000000000000000 - (Int32.toInt64 ((-4))))]) (w2 := compW T S P U O B Q C R tl ((up rf 4 (rf 4 + 1)))) rfl ?_
  exact ev_lret dX6_refuseLong_10 rfl (Nat.le_refl 49) (Nat.le_refl _) (Nat.le_refl _) ⟨(by rfl), rfl⟩
set_option maxHeartbeats 4000000 in
set_option maxRecDepth 100000 in
theorem m_X6_refuse_6 {l : Launch} {E : XE} (T : TopN) (S P U : SaleN) (O : OutN) (B : BillN) (Q : SeaN) (C : ScrN) (R : PrtN) (tl rf : Nat → Nat)  : MetE l E mX6_refuse (0) 0 0 [.ref 0, .int (-6)] (compW T S P U O B Q C R tl rf) (fun r w' => r = some (.int (-6)) ∧ w' = compW T S P U O B Q C R tl ((up rf 6 (rf 6 + 1)))) := by
  refine MetE.of (by decide +kernel) (Nat.le_of_ble_eq_true rfl) ?_
  refine ev_eq (lv' := [(0, .ref 0), (1, .int (-6))]) (st' := []) (w' := compW T S P U O B Q C R tl rf) rfl rfl rfl ?_
  refine ev_b bX6_refuse_0_1 (lv' := [(0, .ref 0), (1, .int (-6))]) (st' := [.int (-6)]) (w2 := compW T S P U O B Q C R tl rf) rfl ?_
  refine ev_top (y := zI (-6)) (by decide) ?_
  refine ev_ineg_z dX6_refuse_1 ?_
  refine ev_top (y := (nI (6))) (by rw [show -(-6) = ((6 : Nat) : Int) from by omega]; exact zI_nat _) ?_
  refine ev_b bX6_refuse_2_4 (lv' := [(2, .int (nI (6))), (0, .ref 0), (1, .int (-6))]) (st' := [.int (nI (6))]) (w2 := compW T S P U O B Q C R tl rf) rfl ?_
  refine ev_if_lt_n (tgt := 26) (by decide) dX6_refuse_4 (by decide) (fun h4 => (by exfalso; omega)) (fun h4 => ?_)
  refine ev_b bX6_refuse_7_13 (lv' := [(2, .int (nI (6))), (0, .ref 0), (1, .int (-6))]) (st' := [.int (nI (7)), .int (nI (6))]) (w2 := compW T S P U O B Q C R tl rf) rfl ?_
  refine ev_icmp_ge_n (tgt := 26) (by decide) (by decide) dX6_refuse_13 (by decide) (fun h13 => (by exfalso; omega)) (fun h13 => ?_)
  refine ev_b bX6_refuse_16_22 (lv' := [(2, .int (nI (6))), (0, .ref 0), (1, .int (-6))]) (st' := [.int (nI (6)), .ref 48, .int (nI (6)), .ref 48]) (w2 := compW T S P U O B Q C R tl rf) rfl ?_
  refine ev_iald_n (f := rf) dX6_refuse_22 rfl (by omega) (by decide) ?_
  refine ev_b bX6_refuse_23_24 (lv' := [(2, .int (nI (6))), (0, .ref 0), (1, .int (-6))]) (st' := [.int (nI (1)), .int (nI (rf 6)), .int (nI (6)), .ref 48]) (w2 := compW T S P U O B Q C R tl rf) rfl ?_
  refine ev_iadd_n dX6_refuse_24 ?_
  refine ev_iast_n (f := rf) dX6_refuse_25 rfl (by omega) (by decide) ?_
  refine ev_eq (w' := compW T S P U O B Q C R tl (up rf 6 ((rf 6) + 1))) rfl rfl rfl ?_
  refine ev_b bX6_refuse_26_27 (lv' := [(2, .int (nI (6))), (0, .ref 0), (1, .int (-6))]) (st' := [.int (-6)]) (w2 := compW T S P U O B Q C R tl (up rf 6 ((rf 6) + 1))) rfl ?_
  exact ev_iret dX6_refuse_27 rfl (Nat.le_refl 49) (Nat.le_refl _) (Nat.le_refl _) ⟨rfl, (by rfl)⟩
set_option maxHeartbeats 4000000 in
set_option maxRecDepth 100000 in
theorem m_X6_refuseLong_6 {l : Launch} {E : XE} (T : TopN) (S P U : SaleN) (O : OutN) (B : BillN) (Q : SeaN) (C : ScrN) (R : PrtN) (tl rf : Nat → Nat)  : MetE l E mX6_refuseLong (1) 0 0 [.ref 0, .int (-6)] (compW T S P U O B Q C R tl rf) (fun r w' => r = some (.long (4000000000000000000 - (Int32.toInt64 (-6)))) ∧ w' = compW T S P U O B Q C R tl ((up rf 6 (rf 6 + 1)))) := by
  refine MetE.of (by decide +kernel) (Nat.le_of_ble_eq_true rfl) ?_
  refine ev_eq (lv' := [(0, .ref 0), (1, .int (-6))]) (st' := []) (w' := compW T S P U O B Q C R tl rf) rfl rfl rfl ?_
  refine ev_b bX6_refuseLong_0_5 (lv' := [(0, .ref 0), (1, .int (-6))]) (st' := [.int (-6), .ref 0, .long (4000000000000000000)]) (w2 := compW T S P U O B Q C R tl rf) rfl ?_
  refine ev_callV (Yc := mX6_refuse) (rng 0 49) dX6_refuseLong_5 tw_248 kX6_refuse (m_X6_refuse_6 T S P U O B Q C R tl rf) rfl (st := [.long (4000000000000000000)]) rfl rfl rfl (by decide) (same_hw (compW T S P U O B Q C R tl rf)) (by decide) (Nat.le_of_ble_eq_true rfl) (Nat.le_refl _) (Nat.le_refl _) (fun r w' h => by obtain ⟨-, rfl⟩ := h; exact Nat.le_of_ble_eq_true rfl) ?_
  rintro _ _ ⟨rfl, rfl⟩
  refine ev_eq (lv' := [(0, .ref 0), (1, .int (-6))]) (st' := [.int (-6), .long (4000000000000000000)]) (w' := compW T S P U O B Q C R tl ((up rf 6 (rf 6 + 1)))) rfl rfl (same_xp (compW T S P U O B Q C R tl rf) (compW T S P U O B Q C R tl ((up rf 6 (rf 6 + 1)))) rfl) ?_
  refine ev_b bX6_refuseLong_8_10 (lv' := [(0, .ref 0), (1, .int (-6))]) (st' := [.long (4000000000000000000 - (Int32.toInt64 ((-6))))]) (w2 := compW T S P U O B Q C R tl ((up rf 6 (rf 6 + 1)))) rfl ?_
  exact ev_lret dX6_refuseLong_10 rfl (Nat.le_refl 49) (Nat.le_refl _) (Nat.le_refl _) ⟨(by rfl), rfl⟩
theorem bX6_isEither_0_1 {l : Launch} {E : XE} : Snd l E mX6_isEither 0 1 (xs [x_iload 0]) := Snd.cons (snd_iload_n (i := 0) dX6_isEither_0 rfl) Snd.nil
theorem bX6_isEither_9_14 {l : Launch} {E : XE} : Snd l E mX6_isEither 9 14 (xs [x_push (.int (nI 1)), x_id]) := Snd.cons (snd_iconst (v := nI 1) dX6_isEither_9 (by decide)) (Snd.cons (snd_goto (tgt := 14) dX6_isEither_10 (by decide)) Snd.nil)
theorem bX6_isEither_4_6 {l : Launch} {E : XE} : Snd l E mX6_isEither 4 6 (xs [x_iload 0, x_push (.int (nI 1))]) := Snd.cons (snd_iload_n (i := 0) dX6_isEither_4 rfl) (Snd.cons (snd_iconst (v := nI 1) dX6_isEither_5 (by decide)) Snd.nil)
theorem bX6_isEither_13_14 {l : Launch} {E : XE} : Snd l E mX6_isEither 13 14 (xs [x_push (.int (nI 0))]) := Snd.cons (snd_iconst (v := nI 0) dX6_isEither_13 (by decide)) Snd.nil
set_option maxHeartbeats 4000000 in
set_option maxRecDepth 100000 in
theorem m_X6_isEither_z {l : Launch} {E : XE} (x : Int) (hx : -2147483648 ≤ x ∧ x < 2147483648) : MetE l E mX6_isEither (0) 0 0 [.int (zI (x))] ([]) (fun r w' => r = some (.int (nI (b01 (x = 0 ∨ x = 1)))) ∧ w' = []) := by
  refine MetE.of (by decide +kernel) (Nat.le_of_ble_eq_true rfl) ?_
  refine ev_eq (lv' := [(0, .int (zI (x)))]) (st' := []) (w' := []) rfl rfl rfl ?_
  refine ev_b bX6_isEither_0_1 (lv' := [(0, .int (zI (x)))]) (st' := [.int (zI (x))]) (w2 := []) rfl ?_
  refine ev_if_eq_z (tgt := 9) (by constructor <;> omega) dX6_isEither_1 (by decide) (fun h1 => ?_) (fun h1 => ?_)
  · skip
    refine ev_b bX6_isEither_9_14 (lv' := [(0, .int (zI (x)))]) (st' := [.int (nI (1))]) (w2 := []) rfl ?_
    exact ev_zret dX6_isEither_14 rfl rfl (Nat.le_of_ble_eq_true rfl) (Nat.le_refl _) (Nat.le_refl _) ⟨(congrArg (fun t => some (Value.int (nI t))) (b01_t (by omega)).symm), rfl⟩
  · skip
    refine ev_b bX6_isEither_4_6 (lv' := [(0, .int (zI (x)))]) (st' := [.int (nI (1)), .int (zI (x))]) (w2 := []) rfl ?_
    refine ev_top (y := zI (((1 : Nat) : Int))) (zI_nat _).symm ?_
    refine ev_icmp_ne_z (tgt := 13) (by constructor <;> omega) (by constructor <;> omega) dX6_isEither_6 (by decide) (fun h6 => ?_) (fun h6 => ?_)
    · skip
      refine ev_b bX6_isEither_13_14 (lv' := [(0, .int (zI (x)))]) (st' := [.int (nI (0))]) (w2 := []) rfl ?_
      exact ev_zret dX6_isEither_14 rfl rfl (Nat.le_of_ble_eq_true rfl) (Nat.le_refl _) (Nat.le_refl _) ⟨(congrArg (fun t => some (Value.int (nI t))) (b01_f (by omega)).symm), rfl⟩
    · skip
      refine ev_b bX6_isEither_9_14 (lv' := [(0, .int (zI (x)))]) (st' := [.int (nI (1))]) (w2 := []) rfl ?_
      exact ev_zret dX6_isEither_14 rfl rfl (Nat.le_of_ble_eq_true rfl) (Nat.le_refl _) (Nat.le_refl _) ⟨(congrArg (fun t => some (Value.int (nI t))) (b01_t (by omega)).symm), rfl⟩
theorem bX6_areBids_0_9 {l : Launch} {E : XE} : Snd l E mX6_areBids 0 9 (xs [x_iload 1, x_push (.int (nI 1)), x_aload 0, x_get 7 0, x_get 4 7]) := Snd.cons (snd_iload_n (i := 1) dX6_areBids_0 rfl) (Snd.cons (snd_iconst (v := nI 1) dX6_areBids_1 (by decide)) (Snd.cons (snd_aload_n (i := 0) dX6_areBids_2 rfl) (Snd.cons (snd_get (ci := 7) (k := 0) dX6_areBids_3 rfl inX6 (by decide) tw_207) (Snd.cons (snd_getN (ci := 4) (k := 7) dX6_areBids_6 rfl inX3 (by decide) tn_44) Snd.nil))))
theorem bX6_areBids_17_18 {l : Launch} {E : XE} : Snd l E mX6_areBids 17 18 (xs [x_push (.int (nI 0))]) := Snd.cons (snd_iconst (v := nI 0) dX6_areBids_17 (by decide)) Snd.nil
theorem bX6_areBids_13_18 {l : Launch} {E : XE} : Snd l E mX6_areBids 13 18 (xs [x_push (.int (nI 1)), x_id]) := Snd.cons (snd_iconst (v := nI 1) dX6_areBids_13 (by decide)) (Snd.cons (snd_goto (tgt := 18) dX6_areBids_14 (by decide)) Snd.nil)
set_option maxHeartbeats 4000000 in
set_option maxRecDepth 100000 in
theorem m_X6_areBids {l : Launch} {E : XE} (T : TopN) (S P U : SaleN) (O : OutN) (B : BillN) (Q : SeaN) (C : ScrN) (R : PrtN) (tl rf : Nat → Nat) (x : Nat) (hS : SaleOK S) (hx : x < 2147483648) : MetE l E mX6_areBids (0) 0 0 [.ref 0, .int (nI (x))] (compW T S P U O B Q C R tl rf) (fun r w' => r = some (.int (nI (b01 (x < 1 <<< S.ca)))) ∧ w' = compW T S P U O B Q C R tl rf) := by
  refine MetE.of (by decide +kernel) (Nat.le_of_ble_eq_true rfl) ?_
  have hca := hS.1
  have hsh : 1 <<< S.ca < 2147483648 := Nat.lt_of_lt_of_le (shl_lt (show S.ca < 31 by omega)) (by decide)
  refine ev_eq (lv' := [(0, .ref 0), (1, .int (nI (x)))]) (st' := []) (w' := compW T S P U O B Q C R tl rf) rfl rfl rfl ?_
  refine ev_b bX6_areBids_0_9 (lv' := [(0, .ref 0), (1, .int (nI (x)))]) (st' := [.int (nI (S.ca)), .int (nI (1)), .int (nI (x))]) (w2 := compW T S P U O B Q C R tl rf) rfl ?_
  refine ev_ishl_n (by omega) dX6_areBids_9 ?_
  refine ev_icmp_ge_n (tgt := 17) (by omega) (by omega) dX6_areBids_10 (by decide) (fun h10 => ?_) (fun h10 => ?_)
  · skip
    refine ev_b bX6_areBids_17_18 (lv' := [(0, .ref 0), (1, .int (nI (x)))]) (st' := [.int (nI (0))]) (w2 := compW T S P U O B Q C R tl rf) rfl ?_
    exact ev_zret dX6_areBids_18 rfl rfl (Nat.le_refl 49) (Nat.le_refl _) (Nat.le_refl _) ⟨(congrArg (fun t => some (Value.int (nI t))) (b01_f (by omega)).symm), rfl⟩
  · skip
    refine ev_b bX6_areBids_13_18 (lv' := [(0, .ref 0), (1, .int (nI (x)))]) (st' := [.int (nI (1))]) (w2 := compW T S P U O B Q C R tl rf) rfl ?_
    exact ev_zret dX6_areBids_18 rfl rfl (Nat.le_refl 49) (Nat.le_refl _) (Nat.le_refl _) ⟨(congrArg (fun t => some (Value.int (nI t))) (b01_t (by omega)).symm), rfl⟩
theorem bX6_firstBid_0_2 {l : Launch} {E : XE} : Snd l E mX6_firstBid 0 2 (xs [x_push (.int (nI 0)), x_istore 1]) := Snd.cons (snd_iconst (v := nI 0) dX6_firstBid_0 (by decide)) (Snd.cons (snd_istore_n (i := 1) dX6_firstBid_1 rfl (by decide)) Snd.nil)
theorem bX6_firstBid_2_5 {l : Launch} {E : XE} : Snd l E mX6_firstBid 2 5 (xs [x_iload 1, x_push (.int (nI 10))]) := Snd.cons (snd_iload_n (i := 1) dX6_firstBid_2 rfl) (Snd.cons (snd_bipush (v := nI 10) dX6_firstBid_3 (by decide)) Snd.nil)
theorem bX6_firstBid_25_27 {l : Launch} {E : XE} : Snd l E mX6_firstBid 25 27 (xs [x_push (.int (-9))]) := Snd.cons (snd_bipush (v := -9) dX6_firstBid_25 (by decide)) Snd.nil
theorem bX6_firstBid_8_10 {l : Launch} {E : XE} : Snd l E mX6_firstBid 8 10 (xs [x_iload 0, x_iload 1]) := Snd.cons (snd_iload_n (i := 0) dX6_firstBid_8 rfl) (Snd.cons (snd_iload_n (i := 1) dX6_firstBid_9 rfl) Snd.nil)
theorem bX6_firstBid_13_14 {l : Launch} {E : XE} : Snd l E mX6_firstBid 13 14 (xs [x_push (.int (nI 1))]) := Snd.cons (snd_iconst (v := nI 1) dX6_firstBid_13 (by decide)) Snd.nil
theorem bX6_firstBid_22_2 {l : Launch} {E : XE} : Snd l E mX6_firstBid 22 2 (xs [x_id]) := Snd.cons (snd_goto (tgt := 2) dX6_firstBid_22 (by decide)) Snd.nil
theorem bX6_firstBid_17_18 {l : Launch} {E : XE} : Snd l E mX6_firstBid 17 18 (xs [x_iload 1]) := Snd.cons (snd_iload_n (i := 1) dX6_firstBid_17 rfl) Snd.nil
set_option maxHeartbeats 4000000 in
set_option maxRecDepth 100000 in
theorem m_X6_firstBid {l : Launch} {E : XE} (x : Nat) (hx : x < 2147483648) : MetE l E mX6_firstBid (1) 0 0 [.int (nI (x))] ([]) (fun r w' => r = some (.int (zI (firstZ x 10 0))) ∧ w' = []) := by
  refine MetE.of (by decide +kernel) (Nat.le_of_ble_eq_true rfl) ?_
  refine ev_eq (lv' := [(0, .int (nI (x)))]) (st' := []) (w' := []) rfl rfl rfl ?_
  refine ev_b bX6_firstBid_0_2 (lv' := [(1, .int (nI (0))), (0, .int (nI (x)))]) (st' := []) (w2 := []) rfl ?_
  have L2 : ∀ (j_ k : Nat), k + j_ = 10 → (firstZ x 10 0 = firstZ x (10 - k) k) → Ev l E mX6_firstBid (1) 0 0 ([]) (fun r w' => r = some (.int (zI (firstZ x 10 0))) ∧ w' = []) 0 0 2 [(1, .int (nI (k))), (0, .int (nI (x)))] [] ([]) := by
    intro j_
    induction j_ with
    | zero =>
      intro k hk2  hinv2
      replace hk2 : k = 10 := hk2
      refine ev_b bX6_firstBid_2_5 (lv' := [(1, .int (nI (k))), (0, .int (nI (x)))]) (st' := [.int (nI (10)), .int (nI (k))]) (w2 := []) rfl ?_
      refine ev_icmp_ge_n (tgt := 25) (by omega) (by decide) dX6_firstBid_5 (by decide) (fun h5 => ?_) (fun h5 => (by exfalso; omega))
      refine ev_b bX6_firstBid_25_27 (lv' := [(1, .int (nI (k))), (0, .int (nI (x)))]) (st' := [.int (-9)]) (w2 := []) rfl ?_
      exact ev_iret dX6_firstBid_27 rfl (Nat.le_of_ble_eq_true rfl) (Nat.le_refl _) (Nat.le_refl _) ⟨(by rw [hinv2, hk2]; exact rfl), rfl⟩
    | succ j_ ih2 =>
      intro k hk2  hinv2
      have hlt2 : k < 10 := by omega
      have hst := first_step hinv2 hlt2
      refine ev_b bX6_firstBid_2_5 (lv' := [(1, .int (nI (k))), (0, .int (nI (x)))]) (st' := [.int (nI (10)), .int (nI (k))]) (w2 := []) rfl ?_
      refine ev_icmp_ge_n (tgt := 25) (by omega) (by decide) dX6_firstBid_5 (by decide) (fun h5 => (by exfalso; omega)) (fun h5 => ?_)
      refine ev_b bX6_firstBid_8_10 (lv' := [(1, .int (nI (k))), (0, .int (nI (x)))]) (st' := [.int (nI (k)), .int (nI (x))]) (w2 := []) rfl ?_
      refine ev_callS (Yc := mX6_bitAt) [] dX6_firstBid_10 tw_446 kX6_bitAt (m_X6_bitAt x k hx (by omega)) rfl (st := []) rfl (by decide) rfl (by decide) (Nat.le_of_ble_eq_true rfl) (Nat.le_refl _) (Nat.le_refl _) (fun r w' h => by obtain ⟨-, rfl⟩ := h; exact Nat.le_of_ble_eq_true rfl) ?_
      rintro _ _ ⟨rfl, rfl⟩
      refine ev_eq (lv' := [(1, .int (nI (k))), (0, .int (nI (x)))]) (st' := [.int (nI (b01 (x.testBit k = true)))]) (w' := []) rfl rfl rfl ?_
      refine ev_b bX6_firstBid_13_14 (lv' := [(1, .int (nI (k))), (0, .int (nI (x)))]) (st' := [.int (nI (1)), .int (nI (b01 (x.testBit k = true)))]) (w2 := []) rfl ?_
      refine ev_icmpne_b1 (tgt := 19) dX6_firstBid_14 (by decide) (fun h14 => ?_) (fun h14 => ?_)
      · skip
        have hnext : firstZ x 10 0 = firstZ x (10 - (k + 1)) (k + 1) := by rw [hst, if_neg h14]
        refine ev_iinc_n (x := k) (v := 1) dX6_firstBid_19 rfl (by decide) ?_
        refine ev_eq (lv' := [(1, .int (nI (k + 1))), (0, .int (nI (x)))]) rfl rfl rfl ?_
        refine ev_b bX6_firstBid_22_2 (lv' := [(1, .int (nI (k + 1))), (0, .int (nI (x)))]) (st' := []) (w2 := []) rfl ?_
        rw [show nI (k + 1) = nI ((k + 1)) from congrArg nI (by omega)]
        exact ih2 (k + 1) (by omega) hnext
      · skip
        refine ev_b bX6_firstBid_17_18 (lv' := [(1, .int (nI (k))), (0, .int (nI (x)))]) (st' := [.int (nI (k))]) (w2 := []) rfl ?_
        exact ev_iret dX6_firstBid_18 rfl (Nat.le_of_ble_eq_true rfl) (Nat.le_refl _) (Nat.le_refl _) ⟨(congrArg (fun t => some (Value.int t)) (show nI (k) = zI (firstZ x 10 0) from by rw [← zI_nat]; exact congrArg zI (by rw [hst, if_pos h14]))), rfl⟩
  exact L2 10 0 (by omega) rfl
