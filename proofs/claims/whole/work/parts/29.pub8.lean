/-! ===== public methods, eighth part: sales tried ===== -/
theorem up_up {α : Type} (f : Nat → α) (k : Nat) (v w : α) : up (up f k v) k w = up f k w := by
  funext j
  unfold up
  by_cases h : j = k
  · rw [if_pos h, if_pos h]
  · rw [if_neg h, if_neg h, if_neg h]
theorem price_ok {S : SaleN} (hS : SaleOK S) {k p : Nat} (hp : p ≤ 99) : SaleOK (priceS S k p) := by
  refine ⟨hS.1, hS.2.1, fun j hj => ?_, hS.2.2.2.1, hS.2.2.2.2⟩
  have h1 := hS.2.2.1 j hj
  refine ⟨h1.1, h1.2.1, h1.2.2.1, ?_⟩
  show up S.pr k p j ≤ 99
  unfold up
  split
  · exact hp
  · exact h1.2.2.2
theorem kind_ok {S : SaleN} (hS : SaleOK S) {b k f : Nat} (hk : k < 6) (hf : f ≤ 9) : SaleOK (kindS S b k f) := by
  refine ⟨hS.1, hS.2.1, hS.2.2.1, fun j hj => ?_, hS.2.2.2.2⟩
  have h1 := hS.2.2.2.1 j hj
  refine ⟨h1.1, ?_, ?_⟩
  · show up S.kd b k j < 6
    unfold up
    split
    · exact hk
    · exact h1.2.1
  · show up S.fg b f j ≤ 9
    unfold up
    split
    · exact hf
    · exact h1.2.2
theorem keep_ok {S : SaleN} (hS : SaleOK S) {i v : Nat} (hv : v ≤ 9) : SaleOK (keepS S i v) := by
  refine ⟨hS.1, hS.2.1, hS.2.2.1, hS.2.2.2.1, fun j hj => ?_⟩
  have h1 := hS.2.2.2.2 j hj
  show up S.rs i v j ≤ 9
  unfold up
  split
  · exact hv
  · exact h1
/-- another set of bids that are on -/
def actS (S : SaleN) (a : Nat) : SaleN := (S.bd, S.st, S.pr, S.ow, S.kd, S.fg, S.rs, S.ca, a)
theorem act_ok {S : SaleN} (hS : SaleOK S) {a : Nat} (ha : a < 2 ^ S.ca) : SaleOK (actS S a) := ⟨hS.1, ha, hS.2.2⟩
def scS (S : SaleN) (i : Nat) : SaleN := keepS (actS S (andn S.ac (hdTo S.st (1 <<< i) S.ca &&& S.ac))) i 0
theorem sc_ok {S : SaleN} (hS : SaleOK S) (i : Nat) : SaleOK (scS S i) := keep_ok (act_ok hS (Nat.lt_of_le_of_lt (xor_and_le _ _) hS.2.1)) (Nat.zero_le _)
def onS (S : SaleN) (b : Nat) : SaleN := actS S (S.ac ||| 1 <<< b)
theorem on_ok {S : SaleN} (hS : SaleOK S) {b : Nat} (hb : b < S.ca) : SaleOK (onS S b) := act_ok hS (Nat.or_lt_two_pow hS.2.1 (shl_lt hb))
def leS (S : SaleN) (b p : Nat) : SaleN := priceS (onS S b) b p
theorem le_ok {S : SaleN} (hS : SaleOK S) {b p : Nat} (hb : b < S.ca) (hp : p ≤ 99) : SaleOK (leS S b p) := price_ok (on_ok hS hb) hp
theorem le_le {S : SaleN} {b p : Nat} (q : Nat) : priceS (leS S b p) b q = leS S b q := by
  unfold leS priceS
  show ((onS S b).bd, (onS S b).st, up (up (onS S b).pr b p) b q, (onS S b).ow, (onS S b).kd, (onS S b).fg, (onS S b).rs, (onS S b).ca, (onS S b).ac) = _
  rw [up_up]
def leZ (S : SaleN) (b : Nat) : Nat → Nat → Int
  | 0, _ => -9
  | n + 1, p => if (winB (leS S b (p + 1)) 1023).testBit b = true then ((p + 1 : Nat) : Int) else leZ S b n (p + 1)
theorem le_step {S : SaleN} {b k : Nat} (h : leZ S b 99 0 = leZ S b (99 - k) k) (hk : k < 99) : leZ S b 99 0 = if (winB (leS S b (k + 1)) 1023).testBit b = true then ((k + 1 : Nat) : Int) else leZ S b (99 - (k + 1)) (k + 1) := by
  rw [h, show 99 - k = (99 - (k + 1)) + 1 by omega]
  rfl
def tiTo (S : SaleN) : Nat → Nat
  | 0 => 0
  | k + 1 => if (winB S 1023).testBit k = true then tiTo S k ||| andn (1 <<< k) (winB (priceS S k (S.pr k - 1)) 1023) else tiTo S k
theorem tiTo_s {S : SaleN} {k : Nat} : tiTo S (k + 1) = if (winB S 1023).testBit k = true then tiTo S k ||| andn (1 <<< k) (winB (priceS S k (S.pr k - 1)) 1023) else tiTo S k := rfl
theorem comp_len (T : TopN) (S P U : SaleN) (O : OutN) (B : BillN) (Q : SeaN) (C : ScrN) (R : PrtN) (tl rf : Nat → Nat) : (compW T S P U O B Q C R tl rf).length = 49 := rfl
theorem comp_xp {T : TopN} {S P U : SaleN} {O : OutN} {B : BillN} {Q : SeaN} {C : ScrN} {R : PrtN} {tl rf : Nat → Nat} {T1 : TopN} {S1 P1 U1 : SaleN} {O1 : OutN} {B1 : BillN} {Q1 : SeaN} {C1 : ScrN} {R1 : PrtN} {tl1 rf1 : Nat → Nat} : xput (rng 0 49) (compW T S P U O B Q C R tl rf).length (compW T S P U O B Q C R tl rf) (rng 0 49) (compW T1 S1 P1 U1 O1 B1 Q1 C1 R1 tl1 rf1) = compW T1 S1 P1 U1 O1 B1 Q1 C1 R1 tl1 rf1 := by
  have h := same_xp (compW T S P U O B Q C R tl rf) (compW T1 S1 P1 U1 O1 B1 Q1 C1 R1 tl1 rf1) ((comp_len T1 S1 P1 U1 O1 B1 Q1 C1 R1 tl1 rf1).trans (comp_len T S P U O B Q C R tl rf).symm)
  rw [comp_len] at h ⊢
  exact h
theorem comp_hw {T : TopN} {S P U : SaleN} {O : OutN} {B : BillN} {Q : SeaN} {C : ScrN} {R : PrtN} {tl rf : Nat → Nat} : (rng 0 49).map (fun i => (compW T S P U O B Q C R tl rf)[i]?) = (compW T S P U O B Q C R tl rf).map (fun e => some (xr (rng 0 49) (compW T S P U O B Q C R tl rf).length e)) := by
  have h := same_hw (compW T S P U O B Q C R tl rf)
  rw [comp_len] at h ⊢
  exact h

theorem hw_comp__17_1 {x0 : TopN} {x1 : SaleN} {x2 : SaleN} {x3 : SaleN} {x4 : OutN} {x5 : BillN} {x6 : SeaN} {x7 : ScrN} {x8 : PrtN} {x9 : Nat → Nat} {x10 : Nat → Nat} : ([17, 18, 19, 20, 21, 22, 23, 24, 1, 2, 3, 4, 5, 6, 7, 8] : List Nat).map (fun i => (compW x0 x1 x2 x3 x4 x5 x6 x7 x8 x9 x10)[i]?) = (saleW 0 x3 ++ saleW 8 x1).map (fun e => some (xr ([17, 18, 19, 20, 21, 22, 23, 24, 1, 2, 3, 4, 5, 6, 7, 8] : List Nat) (compW x0 x1 x2 x3 x4 x5 x6 x7 x8 x9 x10).length e)) := rfl
theorem xp_comp__17_1 {x0 : TopN} {x1 : SaleN} {x2 : SaleN} {x3 : SaleN} {x4 : OutN} {x5 : BillN} {x6 : SeaN} {x7 : ScrN} {x8 : PrtN} {x9 : Nat → Nat} {x10 : Nat → Nat} {y0 : SaleN} {y1 : SaleN} : xput ([17, 18, 19, 20, 21, 22, 23, 24, 1, 2, 3, 4, 5, 6, 7, 8] : List Nat) (compW x0 x1 x2 x3 x4 x5 x6 x7 x8 x9 x10).length (compW x0 x1 x2 x3 x4 x5 x6 x7 x8 x9 x10) ([17, 18, 19, 20, 21, 22, 23, 24, 1, 2, 3, 4, 5, 6, 7, 8] : List Nat) (saleW 0 y0 ++ saleW 8 y1) = compW x0 y1 x2 y0 x4 x5 x6 x7 x8 x9 x10 := by
  have e0 : xput ([17, 18, 19, 20, 21, 22, 23, 24, 1, 2, 3, 4, 5, 6, 7, 8] : List Nat) (compW x0 x1 x2 x3 x4 x5 x6 x7 x8 x9 x10).length (compW x0 x1 x2 x3 x4 x5 x6 x7 x8 x9 x10) ([17, 18, 19, 20, 21, 22, 23, 24] : List Nat) (saleW 0 y0) = compW x0 x1 x2 y0 x4 x5 x6 x7 x8 x9 x10 := xput_blk (topW 0 x0 ++ (saleW 1 x1 ++ (saleW 9 x2))) (saleW 17 x3) (outW 25 x4 ++ (billW 30 x5 ++ (seaW 35 x6 ++ (scrW 38 x7 ++ (prtW 45 x8 ++ (row5 47 x9 ++ (row7 48 x10))))))) (saleW 0 y0) rfl
  have e1 : xput ([17, 18, 19, 20, 21, 22, 23, 24, 1, 2, 3, 4, 5, 6, 7, 8] : List Nat) (compW x0 x1 x2 x3 x4 x5 x6 x7 x8 x9 x10).length (compW x0 x1 x2 y0 x4 x5 x6 x7 x8 x9 x10) ([1, 2, 3, 4, 5, 6, 7, 8] : List Nat) (saleW 8 y1) = compW x0 y1 x2 y0 x4 x5 x6 x7 x8 x9 x10 := xput_blk (topW 0 x0) (saleW 1 x1) (saleW 9 x2 ++ (saleW 17 y0 ++ (outW 25 x4 ++ (billW 30 x5 ++ (seaW 35 x6 ++ (scrW 38 x7 ++ (prtW 45 x8 ++ (row5 47 x9 ++ (row7 48 x10))))))))) (saleW 8 y1) rfl
  refine (xput_app ([17, 18, 19, 20, 21, 22, 23, 24] : List Nat) ([1, 2, 3, 4, 5, 6, 7, 8] : List Nat) _ (saleW 0 y0) (saleW 8 y1) rfl).trans ?_
  exact (congrArg (fun t => xput ([17, 18, 19, 20, 21, 22, 23, 24, 1, 2, 3, 4, 5, 6, 7, 8] : List Nat) (compW x0 x1 x2 x3 x4 x5 x6 x7 x8 x9 x10).length t ([1, 2, 3, 4, 5, 6, 7, 8] : List Nat) (saleW 8 y1)) e0).trans e1
theorem hw_comp__17 {x0 : TopN} {x1 : SaleN} {x2 : SaleN} {x3 : SaleN} {x4 : OutN} {x5 : BillN} {x6 : SeaN} {x7 : ScrN} {x8 : PrtN} {x9 : Nat → Nat} {x10 : Nat → Nat} : ([17, 18, 19, 20, 21, 22, 23, 24] : List Nat).map (fun i => (compW x0 x1 x2 x3 x4 x5 x6 x7 x8 x9 x10)[i]?) = (saleW 0 x3).map (fun e => some (xr ([17, 18, 19, 20, 21, 22, 23, 24] : List Nat) (compW x0 x1 x2 x3 x4 x5 x6 x7 x8 x9 x10).length e)) := rfl
theorem xp_comp__17 {x0 : TopN} {x1 : SaleN} {x2 : SaleN} {x3 : SaleN} {x4 : OutN} {x5 : BillN} {x6 : SeaN} {x7 : ScrN} {x8 : PrtN} {x9 : Nat → Nat} {x10 : Nat → Nat} {y0 : SaleN} : xput ([17, 18, 19, 20, 21, 22, 23, 24] : List Nat) (compW x0 x1 x2 x3 x4 x5 x6 x7 x8 x9 x10).length (compW x0 x1 x2 x3 x4 x5 x6 x7 x8 x9 x10) ([17, 18, 19, 20, 21, 22, 23, 24] : List Nat) (saleW 0 y0) = compW x0 x1 x2 y0 x4 x5 x6 x7 x8 x9 x10 := by
  have e0 : xput ([17, 18, 19, 20, 21, 22, 23, 24] : List Nat) (compW x0 x1 x2 x3 x4 x5 x6 x7 x8 x9 x10).length (compW x0 x1 x2 x3 x4 x5 x6 x7 x8 x9 x10) ([17, 18, 19, 20, 21, 22, 23, 24] : List Nat) (saleW 0 y0) = compW x0 x1 x2 y0 x4 x5 x6 x7 x8 x9 x10 := xput_blk (topW 0 x0 ++ (saleW 1 x1 ++ (saleW 9 x2))) (saleW 17 x3) (outW 25 x4 ++ (billW 30 x5 ++ (seaW 35 x6 ++ (scrW 38 x7 ++ (prtW 45 x8 ++ (row5 47 x9 ++ (row7 48 x10))))))) (saleW 0 y0) rfl
  exact e0
theorem bX6_scarcity_0_8 {l : Launch} {E : XE} : Snd l E mX6_scarcity 0 8 (xs [x_aload 0, x_get 7 2, x_aload 0, x_get 7 0]) := Snd.cons (snd_aload_n (i := 0) dX6_scarcity_0 rfl) (Snd.cons (snd_get (ci := 7) (k := 2) dX6_scarcity_1 rfl inX6 (by decide) tw_209) (Snd.cons (snd_aload_n (i := 0) dX6_scarcity_4 rfl) (Snd.cons (snd_get (ci := 7) (k := 0) dX6_scarcity_5 rfl inX6 (by decide) tw_207) Snd.nil)))
theorem bX6_scarcity_11_25 {l : Launch} {E : XE} : Snd l E mX6_scarcity 11 25 (xs [x_aload 0, x_get 7 2, x_dup, x_get 4 8, x_aload 0, x_get 7 2, x_push (.int (nI 1)), x_iload 1]) := Snd.cons (snd_aload_n (i := 0) dX6_scarcity_11 rfl) (Snd.cons (snd_get (ci := 7) (k := 2) dX6_scarcity_12 rfl inX6 (by decide) tw_209) (Snd.cons (snd_dup dX6_scarcity_15) (Snd.cons (snd_getN (ci := 4) (k := 8) dX6_scarcity_16 rfl inX3 (by decide) tn_48) (Snd.cons (snd_aload_n (i := 0) dX6_scarcity_19 rfl) (Snd.cons (snd_get (ci := 7) (k := 2) dX6_scarcity_20 rfl inX6 (by decide) tw_209) (Snd.cons (snd_iconst (v := nI 1) dX6_scarcity_23 (by decide)) (Snd.cons (snd_iload_n (i := 1) dX6_scarcity_24 rfl) Snd.nil)))))))
theorem bX6_scarcity_29_31 {l : Launch} {E : XE} : Snd l E mX6_scarcity 29 31 (xs [x_push (.int (-1)), x_i2 (fun x y => x ^^^ y)]) := Snd.cons (snd_iconst (v := -1) dX6_scarcity_29 (by decide)) (Snd.cons (snd_ixor dX6_scarcity_30) Snd.nil)
theorem bX6_scarcity_32_41 {l : Launch} {E : XE} : Snd l E mX6_scarcity 32 41 (xs [x_puti 4 8, x_aload 0, x_get 7 2, x_iload 1, x_push (.int (nI 0))]) := Snd.cons (snd_putiN (ci := 4) (k := 8) dX6_scarcity_32 rfl inX3 tyX3_ok nmX3 (by decide) tn_48 rfl rfl) (Snd.cons (snd_aload_n (i := 0) dX6_scarcity_35 rfl) (Snd.cons (snd_get (ci := 7) (k := 2) dX6_scarcity_36 rfl inX6 (by decide) tw_209) (Snd.cons (snd_iload_n (i := 1) dX6_scarcity_39 rfl) (Snd.cons (snd_iconst (v := nI 0) dX6_scarcity_40 (by decide)) Snd.nil))))
theorem bX6_scarcity_44_49 {l : Launch} {E : XE} : Snd l E mX6_scarcity 44 49 (xs [x_aload 0, x_aload 0, x_get 7 0]) := Snd.cons (snd_aload_n (i := 0) dX6_scarcity_44 rfl) (Snd.cons (snd_aload_n (i := 0) dX6_scarcity_45 rfl) (Snd.cons (snd_get (ci := 7) (k := 0) dX6_scarcity_46 rfl inX6 (by decide) tw_207) Snd.nil))
theorem bX6_scarcity_52_57 {l : Launch} {E : XE} : Snd l E mX6_scarcity 52 57 (xs [x_aload 0, x_aload 0, x_get 7 2]) := Snd.cons (snd_aload_n (i := 0) dX6_scarcity_52 rfl) (Snd.cons (snd_aload_n (i := 0) dX6_scarcity_53 rfl) (Snd.cons (snd_get (ci := 7) (k := 2) dX6_scarcity_54 rfl inX6 (by decide) tw_209) Snd.nil))
set_option maxHeartbeats 4000000 in
set_option maxRecDepth 100000 in
theorem m_X6_scarcity {l : Launch} {E : XE} (T : TopN) (S P U : SaleN) (O : OutN) (B : BillN) (Q : SeaN) (C : ScrN) (R : PrtN) (tl rf : Nat → Nat) (i : Nat) (hS : SaleOK S) (hi : i < 6) : MetE l E mX6_scarcity (5) 0 0 [.ref 0, .int (nI (i))] (compW T S P U O B Q C R tl rf) (fun r w' => r = some (.int (zI (((winW S 1023 : Nat) : Int) - ((winW (scS S i) 1023 : Nat) : Int)))) ∧ ∃ O' : OutN, w' = compW T S P ((scS S i)) (O') B Q C R tl rf) := by
  refine MetE.of (by decide +kernel) (Nat.le_of_ble_eq_true rfl) ?_
  have hca := hS.1
  have hpw := pow_ca hS
  have hac := ac_lt hS
  have hU := sc_ok hS i
  have h1i : 1 <<< i < 2147483648 := Nat.lt_of_lt_of_le (shl_lt (show i < 6 from hi)) (by decide)
  refine ev_eq (lv' := [(0, .ref 0), (1, .int (nI (i)))]) (st' := []) (w' := compW T S P U O B Q C R tl rf) rfl rfl rfl ?_
  refine ev_b bX6_scarcity_0_8 (lv' := [(0, .ref 0), (1, .int (nI (i)))]) (st' := [.ref 1, .ref 17]) (w2 := compW T S P U O B Q C R tl rf) rfl ?_
  refine ev_callVN (Yc := mX3_takeFrom) [17, 18, 19, 20, 21, 22, 23, 24, 1, 2, 3, 4, 5, 6, 7, 8] dX6_scarcity_8 tn_372 kX3_takeFrom (m_X3_takeFrom U S) rfl (st := []) rfl rfl rfl (by decide) hw_comp__17_1 (by decide) (Nat.le_of_ble_eq_true rfl) (Nat.le_refl _) (Nat.le_refl _) (fun r w' h => by obtain ⟨-, rfl⟩ := h; exact Nat.le_of_ble_eq_true rfl) ?_
  rintro _ _ ⟨rfl, rfl⟩
  refine ev_eq (lv' := [(0, .ref 0), (1, .int (nI (i)))]) (st' := []) (w' := compW T S P S O B Q C R tl rf) rfl rfl xp_comp__17_1 ?_
  refine ev_b bX6_scarcity_11_25 (lv' := [(0, .ref 0), (1, .int (nI (i)))]) (st' := [.int (nI (i)), .int (nI (1)), .ref 17, .int (nI (S.ac)), .ref 17]) (w2 := compW T S P S O B Q C R tl rf) rfl ?_
  refine ev_ishl_n (by omega) dX6_scarcity_25 ?_
  refine ev_callVN (Yc := mX3_holders) [17, 18, 19, 20, 21, 22, 23, 24] dX6_scarcity_26 tn_685 kX3_holders (m_X3_holders S (1 <<< i) hS h1i) rfl (st := [.int (nI (S.ac)), .ref 17]) rfl rfl rfl (by decide) hw_comp__17 (by decide) (Nat.le_of_ble_eq_true rfl) (Nat.le_refl _) (Nat.le_refl _) (fun r w' h => by obtain ⟨-, rfl⟩ := h; exact Nat.le_of_ble_eq_true rfl) ?_
  rintro _ _ ⟨rfl, rfl⟩
  refine ev_eq (lv' := [(0, .ref 0), (1, .int (nI (i)))]) (st' := [.int (nI (hdTo S.st (1 <<< i) S.ca &&& S.ac)), .int (nI (S.ac)), .ref 17]) (w' := compW T S P S O B Q C R tl rf) rfl rfl xp_comp__17 ?_
  refine ev_b bX6_scarcity_29_31 (lv' := [(0, .ref 0), (1, .int (nI (i)))]) (st' := [.int (nI (hdTo S.st (1 <<< i) S.ca &&& S.ac) ^^^ (-1)), .int (nI (S.ac)), .ref 17]) (w2 := compW T S P S O B Q C R tl rf) rfl ?_
  refine ev_iandn_n dX6_scarcity_31 ?_
  refine ev_b bX6_scarcity_32_41 (lv' := [(0, .ref 0), (1, .int (nI (i)))]) (st' := [.int (nI (0)), .int (nI (i)), .ref 17]) (w2 := compW T S P ((S.bd, S.st, S.pr, S.ow, S.kd, S.fg, S.rs, S.ca, andn S.ac (hdTo S.st (1 <<< i) S.ca &&& S.ac)) : SaleN) O B Q C R tl rf) rfl ?_
  refine ev_callVN (Yc := mX3_setReserve) [17, 18, 19, 20, 21, 22, 23, 24] dX6_scarcity_41 tn_480 kX3_setReserve (m_X3_setReserve (actS S (andn S.ac (hdTo S.st (1 <<< i) S.ca &&& S.ac))) i 0 hi) rfl (st := []) rfl rfl rfl (by decide) hw_comp__17 (by decide) (Nat.le_of_ble_eq_true rfl) (Nat.le_refl _) (Nat.le_refl _) (fun r w' h => by obtain ⟨-, rfl⟩ := h; exact Nat.le_of_ble_eq_true rfl) ?_
  rintro _ _ ⟨rfl, rfl⟩
  refine ev_eq (lv' := [(0, .ref 0), (1, .int (nI (i)))]) (st' := []) (w' := compW T S P ((scS S i)) O B Q C R tl rf) rfl rfl xp_comp__17 ?_
  generalize hU2 : scS S i = U2 at hU ⊢
  refine ev_b bX6_scarcity_44_49 (lv' := [(0, .ref 0), (1, .int (nI (i)))]) (st' := [.ref 1, .ref 0]) (w2 := compW T S P U2 O B Q C R tl rf) rfl ?_
  refine ev_callV (Yc := mX6_worthOf) (rng 0 49) dX6_scarcity_49 tw_629 kX6_worthOf (m_X6_worthOf_S T S P U2 O B Q C R tl rf hS) rfl (st := []) rfl rfl rfl (by decide) comp_hw (by decide) (Nat.le_of_ble_eq_true rfl) (Nat.le_refl _) (Nat.le_refl _) (fun r w' h => by obtain ⟨-, O', rfl, -⟩ := h; exact Nat.le_refl 49) ?_
  rintro _ _ ⟨rfl, O1, rfl, hK1⟩
  refine ev_eq (lv' := [(0, .ref 0), (1, .int (nI (i)))]) (st' := [.int (nI (winW S 1023))]) (w' := compW T S P U2 O1 B Q C R tl rf) rfl rfl comp_xp ?_
  have hwS := winW_le hS 1023
  refine ev_top (y := (zI (((winW S 1023 : Nat) : Int)))) ((zI_nat _).symm.trans (congrArg zI (show ((winW S 1023 : Nat) : Int) = ((winW S 1023 : Nat) : Int) from by rfl))) ?_
  refine ev_b bX6_scarcity_52_57 (lv' := [(0, .ref 0), (1, .int (nI (i)))]) (st' := [.ref 17, .ref 0, .int (zI (((winW S 1023 : Nat) : Int)))]) (w2 := compW T S P U2 O1 B Q C R tl rf) rfl ?_
  refine ev_callV (Yc := mX6_worthOf) (rng 0 49) dX6_scarcity_57 tw_629 kX6_worthOf (m_X6_worthOf_U T S P U2 O1 B Q C R tl rf hU) rfl (st := [.int (zI (((winW S 1023 : Nat) : Int)))]) rfl rfl rfl (by decide) comp_hw (by decide) (Nat.le_of_ble_eq_true rfl) (Nat.le_refl _) (Nat.le_refl _) (fun r w' h => by obtain ⟨-, O', rfl, -⟩ := h; exact Nat.le_refl 49) ?_
  rintro _ _ ⟨rfl, O1, rfl, hK1⟩
  refine ev_eq (lv' := [(0, .ref 0), (1, .int (nI (i)))]) (st' := [.int (nI (winW U2 1023)), .int (zI (((winW S 1023 : Nat) : Int)))]) (w' := compW T S P U2 O1 B Q C R tl rf) rfl rfl comp_xp ?_
  have hwU := winW_le hU 1023
  refine ev_top (y := (zI (((winW U2 1023 : Nat) : Int)))) ((zI_nat _).symm.trans (congrArg zI (show ((winW U2 1023 : Nat) : Int) = ((winW U2 1023 : Nat) : Int) from by rfl))) ?_
  refine ev_isub_z dX6_scarcity_60 ?_
  exact ev_iret dX6_scarcity_61 rfl (Nat.le_refl 49) (Nat.le_refl _) (Nat.le_refl _) ⟨rfl, _, rfl⟩
theorem bX6_item_76_78 {l : Launch} {E : XE} : Snd l E mX6_item 76 78 (xs [x_aload 0, x_iload 1]) := Snd.cons (snd_aload_n (i := 0) dX6_item_76 rfl) (Snd.cons (snd_iload_n (i := 1) dX6_item_77 rfl) Snd.nil)
set_option maxHeartbeats 4000000 in
set_option maxRecDepth 100000 in
theorem p_item_w2 {l : Launch} {E : XE} (T : TopN) (S P U : SaleN) (O : OutN) (B : BillN) (Q : SeaN) (C : ScrN) (R : PrtN) (tl rf : Nat → Nat) (i : Nat) (hS : SaleOK S) (hQ : Q.fd < 2147483648) (hi : i < 6) : MetE l E mX6_item (6) 0 0 [.ref 0, .int (nI (i)), .int (nI (2))] (compW T S P U O B Q C R tl rf) (CP T S P (C.lt) (C.sz) tl rf (some (.int (zI (((winW S 1023 : Nat) : Int) - ((winW (scS S i) 1023 : Nat) : Int)))))) := by
  refine MetE.of (by decide +kernel) (Nat.le_of_ble_eq_true rfl) ?_
  have hca := hS.1
  have hpw := pow_ca hS
  have hac := ac_lt hS
  
  refine ev_eq (lv' := [(0, .ref 0), (1, .int (nI (i))), (2, .int (nI (2)))]) (st' := []) (w' := compW T S P U O B Q C R tl rf) rfl rfl rfl ?_
  refine ev_b bX6_item_0_1 (lv' := [(0, .ref 0), (1, .int (nI (i))), (2, .int (nI (2)))]) (st' := [.int (nI (i))]) (w2 := compW T S P U O B Q C R tl rf) rfl ?_
  refine ev_callS (Yc := mX6_isItem) [] dX6_item_1 tw_475 kX6_isItem (m_X6_isItem i (by omega)) rfl (st := []) rfl (by decide) rfl (by decide) (Nat.le_of_ble_eq_true rfl) (Nat.le_refl _) (Nat.le_refl _) (fun r w' h => by obtain ⟨-, rfl⟩ := h; exact Nat.le_of_ble_eq_true rfl) ?_
  rintro _ _ ⟨rfl, rfl⟩
  refine ev_eq (lv' := [(0, .ref 0), (1, .int (nI (i))), (2, .int (nI (2)))]) (st' := [.int (nI (b01 (i < 6)))]) (w' := compW T S P U O B Q C R tl rf) rfl rfl rfl ?_
  refine ev_ifne_b (tgt := 13) dX6_item_4 (by decide) (fun h4 => ?_) (fun h4 => (by exfalso; omega))
  refine ev_b bX6_item_13_14 (lv' := [(0, .ref 0), (1, .int (nI (i))), (2, .int (nI (2)))]) (st' := [.int (nI (2))]) (w2 := compW T S P U O B Q C R tl rf) rfl ?_
  refine ev_tableIn (off := 62) (tgt := 76) dX6_item_14 (by decide) (by decide) (by decide) (by decide) ?_
  refine ev_b bX6_item_76_78 (lv' := [(0, .ref 0), (1, .int (nI (i))), (2, .int (nI (2)))]) (st' := [.int (nI (i)), .ref 0]) (w2 := compW T S P U O B Q C R tl rf) rfl ?_
  refine ev_callV (Yc := mX6_scarcity) (rng 0 49) dX6_item_78 tw_692 kX6_scarcity (m_X6_scarcity T S P U O B Q C R tl rf i hS hi) rfl (st := []) rfl rfl rfl (by decide) comp_hw (by decide) (Nat.le_of_ble_eq_true rfl) (Nat.le_refl _) (Nat.le_refl _) (fun r w' h => by obtain ⟨-, O', rfl⟩ := h; exact Nat.le_refl 49) ?_
  rintro _ _ ⟨rfl, O1, rfl⟩
  refine ev_eq (lv' := [(0, .ref 0), (1, .int (nI (i))), (2, .int (nI (2)))]) (st' := [.int (zI (((winW S 1023 : Nat) : Int) - ((winW (scS S i) 1023 : Nat) : Int)))]) (w' := compW T S P ((scS S i)) O1 B Q C R tl rf) rfl rfl comp_xp ?_
  exact ev_iret dX6_item_81 rfl (Nat.le_refl 49) (Nat.le_refl _) (Nat.le_refl _) ⟨rfl, _, _, _, _, _, _, rfl, hQ, rfl, rfl⟩
