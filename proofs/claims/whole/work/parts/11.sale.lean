theorem bJ6_bitCount_0f7a4_0_52 {l : Launch} {E : XE} : Snd l E mJ6_bitCount_0f7a4 0 52 (xs [x_iload 0, x_iload 0, x_push (.int (nI 1)), x_i2 (fun x y => (x.toUInt32 >>> (y.toUInt32 &&& Int32.toUInt32 31)).toInt32), x_push (.int (nI 1431655765)), x_i2 (fun x y => x &&& y), x_i2 (fun x y => x - y), x_istore 0, x_iload 0, x_push (.int (nI 858993459)), x_i2 (fun x y => x &&& y), x_iload 0, x_push (.int (nI 2)), x_i2 (fun x y => (x.toUInt32 >>> (y.toUInt32 &&& Int32.toUInt32 31)).toInt32), x_push (.int (nI 858993459)), x_i2 (fun x y => x &&& y), x_i2 (fun x y => x + y), x_istore 0, x_iload 0, x_iload 0, x_push (.int (nI 4)), x_i2 (fun x y => (x.toUInt32 >>> (y.toUInt32 &&& Int32.toUInt32 31)).toInt32), x_i2 (fun x y => x + y), x_push (.int (nI 252645135)), x_i2 (fun x y => x &&& y), x_istore 0, x_iload 0, x_iload 0, x_push (.int (nI 8)), x_i2 (fun x y => (x.toUInt32 >>> (y.toUInt32 &&& Int32.toUInt32 31)).toInt32), x_i2 (fun x y => x + y), x_istore 0, x_iload 0, x_iload 0, x_push (.int (nI 16)), x_i2 (fun x y => (x.toUInt32 >>> (y.toUInt32 &&& Int32.toUInt32 31)).toInt32), x_i2 (fun x y => x + y), x_istore 0, x_iload 0, x_push (.int (nI 63)), x_i2 (fun x y => x &&& y)]) := Snd.cons (snd_iload_n (i := 0) dJ6_bitCount_0f7a4_0 rfl) (Snd.cons (snd_iload_n (i := 0) dJ6_bitCount_0f7a4_1 rfl) (Snd.cons (snd_iconst (v := nI 1) dJ6_bitCount_0f7a4_2 (by decide)) (Snd.cons (snd_iushr dJ6_bitCount_0f7a4_3) (Snd.cons (snd_ldcw (v := nI 1431655765) dJ6_bitCount_0f7a4_4 tw_528) (Snd.cons (snd_iand dJ6_bitCount_0f7a4_7) (Snd.cons (snd_isub dJ6_bitCount_0f7a4_8) (Snd.cons (snd_istore_n (i := 0) dJ6_bitCount_0f7a4_9 rfl (by decide)) (Snd.cons (snd_iload_n (i := 0) dJ6_bitCount_0f7a4_10 rfl) (Snd.cons (snd_ldcw (v := nI 858993459) dJ6_bitCount_0f7a4_11 tw_529) (Snd.cons (snd_iand dJ6_bitCount_0f7a4_14) (Snd.cons (snd_iload_n (i := 0) dJ6_bitCount_0f7a4_15 rfl) (Snd.cons (snd_iconst (v := nI 2) dJ6_bitCount_0f7a4_16 (by decide)) (Snd.cons (snd_iushr dJ6_bitCount_0f7a4_17) (Snd.cons (snd_ldcw (v := nI 858993459) dJ6_bitCount_0f7a4_18 tw_529) (Snd.cons (snd_iand dJ6_bitCount_0f7a4_21) (Snd.cons (snd_iadd dJ6_bitCount_0f7a4_22) (Snd.cons (snd_istore_n (i := 0) dJ6_bitCount_0f7a4_23 rfl (by decide)) (Snd.cons (snd_iload_n (i := 0) dJ6_bitCount_0f7a4_24 rfl) (Snd.cons (snd_iload_n (i := 0) dJ6_bitCount_0f7a4_25 rfl) (Snd.cons (snd_iconst (v := nI 4) dJ6_bitCount_0f7a4_26 (by decide)) (Snd.cons (snd_iushr dJ6_bitCount_0f7a4_27) (Snd.cons (snd_iadd dJ6_bitCount_0f7a4_28) (Snd.cons (snd_ldcw (v := nI 252645135) dJ6_bitCount_0f7a4_29 tw_530) (Snd.cons (snd_iand dJ6_bitCount_0f7a4_32) (Snd.cons (snd_istore_n (i := 0) dJ6_bitCount_0f7a4_33 rfl (by decide)) (Snd.cons (snd_iload_n (i := 0) dJ6_bitCount_0f7a4_34 rfl) (Snd.cons (snd_iload_n (i := 0) dJ6_bitCount_0f7a4_35 rfl) (Snd.cons (snd_bipush (v := nI 8) dJ6_bitCount_0f7a4_36 (by decide)) (Snd.cons (snd_iushr dJ6_bitCount_0f7a4_38) (Snd.cons (snd_iadd dJ6_bitCount_0f7a4_39) (Snd.cons (snd_istore_n (i := 0) dJ6_bitCount_0f7a4_40 rfl (by decide)) (Snd.cons (snd_iload_n (i := 0) dJ6_bitCount_0f7a4_41 rfl) (Snd.cons (snd_iload_n (i := 0) dJ6_bitCount_0f7a4_42 rfl) (Snd.cons (snd_bipush (v := nI 16) dJ6_bitCount_0f7a4_43 (by decide)) (Snd.cons (snd_iushr dJ6_bitCount_0f7a4_45) (Snd.cons (snd_iadd dJ6_bitCount_0f7a4_46) (Snd.cons (snd_istore_n (i := 0) dJ6_bitCount_0f7a4_47 rfl (by decide)) (Snd.cons (snd_iload_n (i := 0) dJ6_bitCount_0f7a4_48 rfl) (Snd.cons (snd_bipush (v := nI 63) dJ6_bitCount_0f7a4_49 (by decide)) (Snd.cons (snd_iand dJ6_bitCount_0f7a4_51) Snd.nil))))))))))))))))))))))))))))))))))))))))
set_option maxHeartbeats 4000000 in
set_option maxRecDepth 100000 in
theorem m_J6_bitCount_0f7a4 {l : Launch} {E : XE} (x : Int32)  : MetE l E mJ6_bitCount_0f7a4 (0) 0 0 [.int (x)] ([]) (fun r w' => r = some (.int (bcI x)) ∧ w' = []) := by
  refine MetE.of (by decide +kernel) (Nat.le_of_ble_eq_true rfl) ?_
  refine ev_eq (lv' := [(0, .int (x))]) (st' := []) (w' := []) rfl rfl rfl ?_
  refine ev_b bJ6_bitCount_0f7a4_0_52 (lv' := [(0, .int ((((((((x) - (((Int32.toUInt32 (x) >>> (Int32.toUInt32 (nI (1)) &&& Int32.toUInt32 31)).toInt32) &&& (nI (1431655765)))) &&& (nI (858993459))) + (((Int32.toUInt32 ((x) - (((Int32.toUInt32 (x) >>> (Int32.toUInt32 (nI (1)) &&& Int32.toUInt32 31)).toInt32) &&& (nI (1431655765)))) >>> (Int32.toUInt32 (nI (2)) &&& Int32.toUInt32 31)).toInt32) &&& (nI (858993459)))) + ((Int32.toUInt32 ((((x) - (((Int32.toUInt32 (x) >>> (Int32.toUInt32 (nI (1)) &&& Int32.toUInt32 31)).toInt32) &&& (nI (1431655765)))) &&& (nI (858993459))) + (((Int32.toUInt32 ((x) - (((Int32.toUInt32 (x) >>> (Int32.toUInt32 (nI (1)) &&& Int32.toUInt32 31)).toInt32) &&& (nI (1431655765)))) >>> (Int32.toUInt32 (nI (2)) &&& Int32.toUInt32 31)).toInt32) &&& (nI (858993459)))) >>> (Int32.toUInt32 (nI (4)) &&& Int32.toUInt32 31)).toInt32)) &&& (nI (252645135))) + ((Int32.toUInt32 ((((((x) - (((Int32.toUInt32 (x) >>> (Int32.toUInt32 (nI (1)) &&& Int32.toUInt32 31)).toInt32) &&& (nI (1431655765)))) &&& (nI (858993459))) + (((Int32.toUInt32 ((x) - (((Int32.toUInt32 (x) >>> (Int32.toUInt32 (nI (1)) &&& Int32.toUInt32 31)).toInt32) &&& (nI (1431655765)))) >>> (Int32.toUInt32 (nI (2)) &&& Int32.toUInt32 31)).toInt32) &&& (nI (858993459)))) + ((Int32.toUInt32 ((((x) - (((Int32.toUInt32 (x) >>> (Int32.toUInt32 (nI (1)) &&& Int32.toUInt32 31)).toInt32) &&& (nI (1431655765)))) &&& (nI (858993459))) + (((Int32.toUInt32 ((x) - (((Int32.toUInt32 (x) >>> (Int32.toUInt32 (nI (1)) &&& Int32.toUInt32 31)).toInt32) &&& (nI (1431655765)))) >>> (Int32.toUInt32 (nI (2)) &&& Int32.toUInt32 31)).toInt32) &&& (nI (858993459)))) >>> (Int32.toUInt32 (nI (4)) &&& Int32.toUInt32 31)).toInt32)) &&& (nI (252645135))) >>> (Int32.toUInt32 (nI (8)) &&& Int32.toUInt32 31)).toInt32)) + ((Int32.toUInt32 (((((((x) - (((Int32.toUInt32 (x) >>> (Int32.toUInt32 (nI (1)) &&& Int32.toUInt32 31)).toInt32) &&& (nI (1431655765)))) &&& (nI (858993459))) + (((Int32.toUInt32 ((x) - (((Int32.toUInt32 (x) >>> (Int32.toUInt32 (nI (1)) &&& Int32.toUInt32 31)).toInt32) &&& (nI (1431655765)))) >>> (Int32.toUInt32 (nI (2)) &&& Int32.toUInt32 31)).toInt32) &&& (nI (858993459)))) + ((Int32.toUInt32 ((((x) - (((Int32.toUInt32 (x) >>> (Int32.toUInt32 (nI (1)) &&& Int32.toUInt32 31)).toInt32) &&& (nI (1431655765)))) &&& (nI (858993459))) + (((Int32.toUInt32 ((x) - (((Int32.toUInt32 (x) >>> (Int32.toUInt32 (nI (1)) &&& Int32.toUInt32 31)).toInt32) &&& (nI (1431655765)))) >>> (Int32.toUInt32 (nI (2)) &&& Int32.toUInt32 31)).toInt32) &&& (nI (858993459)))) >>> (Int32.toUInt32 (nI (4)) &&& Int32.toUInt32 31)).toInt32)) &&& (nI (252645135))) + ((Int32.toUInt32 ((((((x) - (((Int32.toUInt32 (x) >>> (Int32.toUInt32 (nI (1)) &&& Int32.toUInt32 31)).toInt32) &&& (nI (1431655765)))) &&& (nI (858993459))) + (((Int32.toUInt32 ((x) - (((Int32.toUInt32 (x) >>> (Int32.toUInt32 (nI (1)) &&& Int32.toUInt32 31)).toInt32) &&& (nI (1431655765)))) >>> (Int32.toUInt32 (nI (2)) &&& Int32.toUInt32 31)).toInt32) &&& (nI (858993459)))) + ((Int32.toUInt32 ((((x) - (((Int32.toUInt32 (x) >>> (Int32.toUInt32 (nI (1)) &&& Int32.toUInt32 31)).toInt32) &&& (nI (1431655765)))) &&& (nI (858993459))) + (((Int32.toUInt32 ((x) - (((Int32.toUInt32 (x) >>> (Int32.toUInt32 (nI (1)) &&& Int32.toUInt32 31)).toInt32) &&& (nI (1431655765)))) >>> (Int32.toUInt32 (nI (2)) &&& Int32.toUInt32 31)).toInt32) &&& (nI (858993459)))) >>> (Int32.toUInt32 (nI (4)) &&& Int32.toUInt32 31)).toInt32)) &&& (nI (252645135))) >>> (Int32.toUInt32 (nI (8)) &&& Int32.toUInt32 31)).toInt32)) >>> (Int32.toUInt32 (nI (16)) &&& Int32.toUInt32 31)).toInt32)))]) (st' := [.int (((((((((x) - (((Int32.toUInt32 (x) >>> (Int32.toUInt32 (nI (1)) &&& Int32.toUInt32 31)).toInt32) &&& (nI (1431655765)))) &&& (nI (858993459))) + (((Int32.toUInt32 ((x) - (((Int32.toUInt32 (x) >>> (Int32.toUInt32 (nI (1)) &&& Int32.toUInt32 31)).toInt32) &&& (nI (1431655765)))) >>> (Int32.toUInt32 (nI (2)) &&& Int32.toUInt32 31)).toInt32) &&& (nI (858993459)))) + ((Int32.toUInt32 ((((x) - (((Int32.toUInt32 (x) >>> (Int32.toUInt32 (nI (1)) &&& Int32.toUInt32 31)).toInt32) &&& (nI (1431655765)))) &&& (nI (858993459))) + (((Int32.toUInt32 ((x) - (((Int32.toUInt32 (x) >>> (Int32.toUInt32 (nI (1)) &&& Int32.toUInt32 31)).toInt32) &&& (nI (1431655765)))) >>> (Int32.toUInt32 (nI (2)) &&& Int32.toUInt32 31)).toInt32) &&& (nI (858993459)))) >>> (Int32.toUInt32 (nI (4)) &&& Int32.toUInt32 31)).toInt32)) &&& (nI (252645135))) + ((Int32.toUInt32 ((((((x) - (((Int32.toUInt32 (x) >>> (Int32.toUInt32 (nI (1)) &&& Int32.toUInt32 31)).toInt32) &&& (nI (1431655765)))) &&& (nI (858993459))) + (((Int32.toUInt32 ((x) - (((Int32.toUInt32 (x) >>> (Int32.toUInt32 (nI (1)) &&& Int32.toUInt32 31)).toInt32) &&& (nI (1431655765)))) >>> (Int32.toUInt32 (nI (2)) &&& Int32.toUInt32 31)).toInt32) &&& (nI (858993459)))) + ((Int32.toUInt32 ((((x) - (((Int32.toUInt32 (x) >>> (Int32.toUInt32 (nI (1)) &&& Int32.toUInt32 31)).toInt32) &&& (nI (1431655765)))) &&& (nI (858993459))) + (((Int32.toUInt32 ((x) - (((Int32.toUInt32 (x) >>> (Int32.toUInt32 (nI (1)) &&& Int32.toUInt32 31)).toInt32) &&& (nI (1431655765)))) >>> (Int32.toUInt32 (nI (2)) &&& Int32.toUInt32 31)).toInt32) &&& (nI (858993459)))) >>> (Int32.toUInt32 (nI (4)) &&& Int32.toUInt32 31)).toInt32)) &&& (nI (252645135))) >>> (Int32.toUInt32 (nI (8)) &&& Int32.toUInt32 31)).toInt32)) + ((Int32.toUInt32 (((((((x) - (((Int32.toUInt32 (x) >>> (Int32.toUInt32 (nI (1)) &&& Int32.toUInt32 31)).toInt32) &&& (nI (1431655765)))) &&& (nI (858993459))) + (((Int32.toUInt32 ((x) - (((Int32.toUInt32 (x) >>> (Int32.toUInt32 (nI (1)) &&& Int32.toUInt32 31)).toInt32) &&& (nI (1431655765)))) >>> (Int32.toUInt32 (nI (2)) &&& Int32.toUInt32 31)).toInt32) &&& (nI (858993459)))) + ((Int32.toUInt32 ((((x) - (((Int32.toUInt32 (x) >>> (Int32.toUInt32 (nI (1)) &&& Int32.toUInt32 31)).toInt32) &&& (nI (1431655765)))) &&& (nI (858993459))) + (((Int32.toUInt32 ((x) - (((Int32.toUInt32 (x) >>> (Int32.toUInt32 (nI (1)) &&& Int32.toUInt32 31)).toInt32) &&& (nI (1431655765)))) >>> (Int32.toUInt32 (nI (2)) &&& Int32.toUInt32 31)).toInt32) &&& (nI (858993459)))) >>> (Int32.toUInt32 (nI (4)) &&& Int32.toUInt32 31)).toInt32)) &&& (nI (252645135))) + ((Int32.toUInt32 ((((((x) - (((Int32.toUInt32 (x) >>> (Int32.toUInt32 (nI (1)) &&& Int32.toUInt32 31)).toInt32) &&& (nI (1431655765)))) &&& (nI (858993459))) + (((Int32.toUInt32 ((x) - (((Int32.toUInt32 (x) >>> (Int32.toUInt32 (nI (1)) &&& Int32.toUInt32 31)).toInt32) &&& (nI (1431655765)))) >>> (Int32.toUInt32 (nI (2)) &&& Int32.toUInt32 31)).toInt32) &&& (nI (858993459)))) + ((Int32.toUInt32 ((((x) - (((Int32.toUInt32 (x) >>> (Int32.toUInt32 (nI (1)) &&& Int32.toUInt32 31)).toInt32) &&& (nI (1431655765)))) &&& (nI (858993459))) + (((Int32.toUInt32 ((x) - (((Int32.toUInt32 (x) >>> (Int32.toUInt32 (nI (1)) &&& Int32.toUInt32 31)).toInt32) &&& (nI (1431655765)))) >>> (Int32.toUInt32 (nI (2)) &&& Int32.toUInt32 31)).toInt32) &&& (nI (858993459)))) >>> (Int32.toUInt32 (nI (4)) &&& Int32.toUInt32 31)).toInt32)) &&& (nI (252645135))) >>> (Int32.toUInt32 (nI (8)) &&& Int32.toUInt32 31)).toInt32)) >>> (Int32.toUInt32 (nI (16)) &&& Int32.toUInt32 31)).toInt32)) &&& (nI (63)))]) (w2 := []) rfl ?_
  exact ev_iret dJ6_bitCount_0f7a4_52 rfl (Nat.le_of_ble_eq_true rfl) (Nat.le_refl _) (Nat.le_refl _) ⟨(by rfl), rfl⟩
theorem m_bitCount {l : Launch} {E : XE} (n : Nat) (h : n < 1024) : MetE l E mJ6_bitCount_0f7a4 0 0 0 [.int (nI n)] [] (fun r w' => r = some (.int (nI (pop n))) ∧ w' = []) := by
  have h1 := m_J6_bitCount_0f7a4 (l := l) (E := E) (nI n)
  rw [bcI_pop n h] at h1
  exact h1
theorem bX6_bitAt_0_2 {l : Launch} {E : XE} : Snd l E mX6_bitAt 0 2 (xs [x_iload 0, x_iload 1]) := Snd.cons (snd_iload_n (i := 0) dX6_bitAt_0 rfl) (Snd.cons (snd_iload_n (i := 1) dX6_bitAt_1 rfl) Snd.nil)
theorem bX6_bitAt_3_4 {l : Launch} {E : XE} : Snd l E mX6_bitAt 3 4 (xs [x_push (.int (nI 1))]) := Snd.cons (snd_iconst (v := nI 1) dX6_bitAt_3 (by decide)) Snd.nil
set_option maxHeartbeats 4000000 in
set_option maxRecDepth 100000 in
theorem m_X6_bitAt {l : Launch} {E : XE} (bits place : Nat) (hb : bits < 2147483648) (hp : place < 32) : MetE l E mX6_bitAt (0) 0 0 [.int (nI (bits)), .int (nI (place))] ([]) (fun r w' => r = some (.int (nI (b01 (bits.testBit place = true)))) ∧ w' = []) := by
  refine MetE.of (by decide +kernel) (Nat.le_of_ble_eq_true rfl) ?_
  refine ev_eq (lv' := [(0, .int (nI (bits))), (1, .int (nI (place)))]) (st' := []) (w' := []) rfl rfl rfl ?_
  refine ev_b bX6_bitAt_0_2 (lv' := [(0, .int (nI (bits))), (1, .int (nI (place)))]) (st' := [.int (nI (place)), .int (nI (bits))]) (w2 := []) rfl ?_
  refine ev_ishr_n (by omega) (by omega) dX6_bitAt_2 ?_
  refine ev_b bX6_bitAt_3_4 (lv' := [(0, .int (nI (bits))), (1, .int (nI (place)))]) (st' := [.int (nI (1)), .int (nI (bits >>> place))]) (w2 := []) rfl ?_
  refine ev_iand_n dX6_bitAt_4 ?_
  refine ev_top (y := (nI (b01 (bits.testBit place = true)))) (by exact congrArg nI (shr1 _ _)) ?_
  exact ev_iret dX6_bitAt_5 rfl (Nat.le_of_ble_eq_true rfl) (Nat.le_refl _) (Nat.le_refl _) ⟨rfl, rfl⟩
theorem bX6_bitAt_0_5 {l : Launch} {E : XE} : Snd l E mX6_bitAt 0 5 (xs [x_iload 0, x_iload 1, x_i2 (fun x y => x >>> (y &&& 31)), x_push (.int (nI 1)), x_i2 (fun x y => x &&& y)]) := Snd.cons (snd_iload_n (i := 0) dX6_bitAt_0 rfl) (Snd.cons (snd_iload_n (i := 1) dX6_bitAt_1 rfl) (Snd.cons (snd_ishr dX6_bitAt_2) (Snd.cons (snd_iconst (v := nI 1) dX6_bitAt_3 (by decide)) (Snd.cons (snd_iand dX6_bitAt_4) Snd.nil))))
set_option maxHeartbeats 4000000 in
set_option maxRecDepth 100000 in
theorem m_X6_bitAt_not {l : Launch} {E : XE} (b place : Nat) (hp : place < 31) : MetE l E mX6_bitAt (0) 0 0 [.int (nI (b) ^^^ (-1)), .int (nI (place))] ([]) (fun r w' => r = some (.int (nI (b01 (¬ b.testBit place = true)))) ∧ w' = []) := by
  refine MetE.of (by decide +kernel) (Nat.le_of_ble_eq_true rfl) ?_
  refine ev_eq (lv' := [(0, .int (nI (b) ^^^ (-1))), (1, .int (nI (place)))]) (st' := []) (w' := []) rfl rfl rfl ?_
  refine ev_b bX6_bitAt_0_5 (lv' := [(0, .int (nI (b) ^^^ (-1))), (1, .int (nI (place)))]) (st' := [.int (((nI (b) ^^^ (-1)) >>> ((nI (place)) &&& 31)) &&& (nI (1)))]) (w2 := []) rfl ?_
  exact ev_iret dX6_bitAt_5 rfl (Nat.le_of_ble_eq_true rfl) (Nat.le_refl _) (Nat.le_refl _) ⟨(by exact congrArg (fun t => some (Value.int t)) (not_bit b place hp)), rfl⟩
theorem bX6_isBidder_0_1 {l : Launch} {E : XE} : Snd l E mX6_isBidder 0 1 (xs [x_iload 0]) := Snd.cons (snd_iload_n (i := 0) dX6_isBidder_0 rfl) Snd.nil
theorem bX6_isBidder_4_6 {l : Launch} {E : XE} : Snd l E mX6_isBidder 4 6 (xs [x_iload 0, x_push (.int (nI 5))]) := Snd.cons (snd_iload_n (i := 0) dX6_isBidder_4 rfl) (Snd.cons (snd_iconst (v := nI 5) dX6_isBidder_5 (by decide)) Snd.nil)
theorem bX6_isBidder_13_14 {l : Launch} {E : XE} : Snd l E mX6_isBidder 13 14 (xs [x_push (.int (nI 0))]) := Snd.cons (snd_iconst (v := nI 0) dX6_isBidder_13 (by decide)) Snd.nil
theorem bX6_isBidder_9_14 {l : Launch} {E : XE} : Snd l E mX6_isBidder 9 14 (xs [x_push (.int (nI 1)), x_id]) := Snd.cons (snd_iconst (v := nI 1) dX6_isBidder_9 (by decide)) (Snd.cons (snd_goto (tgt := 14) dX6_isBidder_10 (by decide)) Snd.nil)
set_option maxHeartbeats 4000000 in
set_option maxRecDepth 100000 in
theorem m_X6_isBidder {l : Launch} {E : XE} (x : Nat) (hx : x < 2147483648) : MetE l E mX6_isBidder (0) 0 0 [.int (nI (x))] ([]) (fun r w' => r = some (.int (nI (b01 (x < 5)))) ∧ w' = []) := by
  refine MetE.of (by decide +kernel) (Nat.le_of_ble_eq_true rfl) ?_
  refine ev_eq (lv' := [(0, .int (nI (x)))]) (st' := []) (w' := []) rfl rfl rfl ?_
  refine ev_b bX6_isBidder_0_1 (lv' := [(0, .int (nI (x)))]) (st' := [.int (nI (x))]) (w2 := []) rfl ?_
  refine ev_if_lt_n (tgt := 13) (by omega) dX6_isBidder_1 (by decide) (fun h1 => (by exfalso; omega)) (fun h1 => ?_)
  refine ev_b bX6_isBidder_4_6 (lv' := [(0, .int (nI (x)))]) (st' := [.int (nI (5)), .int (nI (x))]) (w2 := []) rfl ?_
  refine ev_icmp_ge_n (tgt := 13) (by omega) (by decide) dX6_isBidder_6 (by decide) (fun h6 => ?_) (fun h6 => ?_)
  · skip
    refine ev_b bX6_isBidder_13_14 (lv' := [(0, .int (nI (x)))]) (st' := [.int (nI (0))]) (w2 := []) rfl ?_
    exact ev_zret dX6_isBidder_14 rfl rfl (Nat.le_of_ble_eq_true rfl) (Nat.le_refl _) (Nat.le_refl _) ⟨(congrArg (fun t => some (Value.int (nI t))) (b01_f (by omega)).symm), rfl⟩
  · skip
    refine ev_b bX6_isBidder_9_14 (lv' := [(0, .int (nI (x)))]) (st' := [.int (nI (1))]) (w2 := []) rfl ?_
    exact ev_zret dX6_isBidder_14 rfl rfl (Nat.le_of_ble_eq_true rfl) (Nat.le_refl _) (Nat.le_refl _) ⟨(congrArg (fun t => some (Value.int (nI t))) (b01_t (by omega)).symm), rfl⟩
set_option maxHeartbeats 4000000 in
set_option maxRecDepth 100000 in
theorem m_X6_isBidder_z {l : Launch} {E : XE} (x : Int) (hx : -2147483648 ≤ x ∧ x < 2147483648) : MetE l E mX6_isBidder (0) 0 0 [.int (zI (x))] ([]) (fun r w' => r = some (.int (nI (b01 (0 ≤ x ∧ x < 5)))) ∧ w' = []) := by
  refine MetE.of (by decide +kernel) (Nat.le_of_ble_eq_true rfl) ?_
  refine ev_eq (lv' := [(0, .int (zI (x)))]) (st' := []) (w' := []) rfl rfl rfl ?_
  refine ev_b bX6_isBidder_0_1 (lv' := [(0, .int (zI (x)))]) (st' := [.int (zI (x))]) (w2 := []) rfl ?_
  refine ev_if_lt_z (tgt := 13) (by constructor <;> omega) dX6_isBidder_1 (by decide) (fun h1 => ?_) (fun h1 => ?_)
  · skip
    refine ev_b bX6_isBidder_13_14 (lv' := [(0, .int (zI (x)))]) (st' := [.int (nI (0))]) (w2 := []) rfl ?_
    exact ev_zret dX6_isBidder_14 rfl rfl (Nat.le_of_ble_eq_true rfl) (Nat.le_refl _) (Nat.le_refl _) ⟨(congrArg (fun t => some (Value.int (nI t))) (b01_f (by omega)).symm), rfl⟩
  · skip
    refine ev_b bX6_isBidder_4_6 (lv' := [(0, .int (zI (x)))]) (st' := [.int (nI (5)), .int (zI (x))]) (w2 := []) rfl ?_
    refine ev_top (y := zI (((5 : Nat) : Int))) (zI_nat _).symm ?_
    refine ev_icmp_ge_z (tgt := 13) (by constructor <;> omega) (by constructor <;> omega) dX6_isBidder_6 (by decide) (fun h6 => ?_) (fun h6 => ?_)
    · skip
      refine ev_b bX6_isBidder_13_14 (lv' := [(0, .int (zI (x)))]) (st' := [.int (nI (0))]) (w2 := []) rfl ?_
      exact ev_zret dX6_isBidder_14 rfl rfl (Nat.le_of_ble_eq_true rfl) (Nat.le_refl _) (Nat.le_refl _) ⟨(congrArg (fun t => some (Value.int (nI t))) (b01_f (by omega)).symm), rfl⟩
    · skip
      refine ev_b bX6_isBidder_9_14 (lv' := [(0, .int (zI (x)))]) (st' := [.int (nI (1))]) (w2 := []) rfl ?_
      exact ev_zret dX6_isBidder_14 rfl rfl (Nat.le_of_ble_eq_true rfl) (Nat.le_refl _) (Nat.le_refl _) ⟨(congrArg (fun t => some (Value.int (nI t))) (b01_t (by omega)).symm), rfl⟩
theorem bX6_isItem_0_1 {l : Launch} {E : XE} : Snd l E mX6_isItem 0 1 (xs [x_iload 0]) := Snd.cons (snd_iload_n (i := 0) dX6_isItem_0 rfl) Snd.nil
theorem bX6_isItem_4_7 {l : Launch} {E : XE} : Snd l E mX6_isItem 4 7 (xs [x_iload 0, x_push (.int (nI 6))]) := Snd.cons (snd_iload_n (i := 0) dX6_isItem_4 rfl) (Snd.cons (snd_bipush (v := nI 6) dX6_isItem_5 (by decide)) Snd.nil)
theorem bX6_isItem_14_15 {l : Launch} {E : XE} : Snd l E mX6_isItem 14 15 (xs [x_push (.int (nI 0))]) := Snd.cons (snd_iconst (v := nI 0) dX6_isItem_14 (by decide)) Snd.nil
theorem bX6_isItem_10_15 {l : Launch} {E : XE} : Snd l E mX6_isItem 10 15 (xs [x_push (.int (nI 1)), x_id]) := Snd.cons (snd_iconst (v := nI 1) dX6_isItem_10 (by decide)) (Snd.cons (snd_goto (tgt := 15) dX6_isItem_11 (by decide)) Snd.nil)
set_option maxHeartbeats 4000000 in
set_option maxRecDepth 100000 in
theorem m_X6_isItem {l : Launch} {E : XE} (x : Nat) (hx : x < 2147483648) : MetE l E mX6_isItem (0) 0 0 [.int (nI (x))] ([]) (fun r w' => r = some (.int (nI (b01 (x < 6)))) ∧ w' = []) := by
  refine MetE.of (by decide +kernel) (Nat.le_of_ble_eq_true rfl) ?_
  refine ev_eq (lv' := [(0, .int (nI (x)))]) (st' := []) (w' := []) rfl rfl rfl ?_
  refine ev_b bX6_isItem_0_1 (lv' := [(0, .int (nI (x)))]) (st' := [.int (nI (x))]) (w2 := []) rfl ?_
  refine ev_if_lt_n (tgt := 14) (by omega) dX6_isItem_1 (by decide) (fun h1 => (by exfalso; omega)) (fun h1 => ?_)
  refine ev_b bX6_isItem_4_7 (lv' := [(0, .int (nI (x)))]) (st' := [.int (nI (6)), .int (nI (x))]) (w2 := []) rfl ?_
  refine ev_icmp_ge_n (tgt := 14) (by omega) (by decide) dX6_isItem_7 (by decide) (fun h7 => ?_) (fun h7 => ?_)
  · skip
    refine ev_b bX6_isItem_14_15 (lv' := [(0, .int (nI (x)))]) (st' := [.int (nI (0))]) (w2 := []) rfl ?_
    exact ev_zret dX6_isItem_15 rfl rfl (Nat.le_of_ble_eq_true rfl) (Nat.le_refl _) (Nat.le_refl _) ⟨(congrArg (fun t => some (Value.int (nI t))) (b01_f (by omega)).symm), rfl⟩
  · skip
    refine ev_b bX6_isItem_10_15 (lv' := [(0, .int (nI (x)))]) (st' := [.int (nI (1))]) (w2 := []) rfl ?_
    exact ev_zret dX6_isItem_15 rfl rfl (Nat.le_of_ble_eq_true rfl) (Nat.le_refl _) (Nat.le_refl _) ⟨(congrArg (fun t => some (Value.int (nI t))) (b01_t (by omega)).symm), rfl⟩
set_option maxHeartbeats 4000000 in
set_option maxRecDepth 100000 in
theorem m_X6_isItem_z {l : Launch} {E : XE} (x : Int) (hx : -2147483648 ≤ x ∧ x < 2147483648) : MetE l E mX6_isItem (0) 0 0 [.int (zI (x))] ([]) (fun r w' => r = some (.int (nI (b01 (0 ≤ x ∧ x < 6)))) ∧ w' = []) := by
  refine MetE.of (by decide +kernel) (Nat.le_of_ble_eq_true rfl) ?_
  refine ev_eq (lv' := [(0, .int (zI (x)))]) (st' := []) (w' := []) rfl rfl rfl ?_
  refine ev_b bX6_isItem_0_1 (lv' := [(0, .int (zI (x)))]) (st' := [.int (zI (x))]) (w2 := []) rfl ?_
  refine ev_if_lt_z (tgt := 14) (by constructor <;> omega) dX6_isItem_1 (by decide) (fun h1 => ?_) (fun h1 => ?_)
  · skip
    refine ev_b bX6_isItem_14_15 (lv' := [(0, .int (zI (x)))]) (st' := [.int (nI (0))]) (w2 := []) rfl ?_
    exact ev_zret dX6_isItem_15 rfl rfl (Nat.le_of_ble_eq_true rfl) (Nat.le_refl _) (Nat.le_refl _) ⟨(congrArg (fun t => some (Value.int (nI t))) (b01_f (by omega)).symm), rfl⟩
  · skip
    refine ev_b bX6_isItem_4_7 (lv' := [(0, .int (zI (x)))]) (st' := [.int (nI (6)), .int (zI (x))]) (w2 := []) rfl ?_
    refine ev_top (y := zI (((6 : Nat) : Int))) (zI_nat _).symm ?_
    refine ev_icmp_ge_z (tgt := 14) (by constructor <;> omega) (by constructor <;> omega) dX6_isItem_7 (by decide) (fun h7 => ?_) (fun h7 => ?_)
    · skip
      refine ev_b bX6_isItem_14_15 (lv' := [(0, .int (zI (x)))]) (st' := [.int (nI (0))]) (w2 := []) rfl ?_
      exact ev_zret dX6_isItem_15 rfl rfl (Nat.le_of_ble_eq_true rfl) (Nat.le_refl _) (Nat.le_refl _) ⟨(congrArg (fun t => some (Value.int (nI t))) (b01_f (by omega)).symm), rfl⟩
    · skip
      refine ev_b bX6_isItem_10_15 (lv' := [(0, .int (zI (x)))]) (st' := [.int (nI (1))]) (w2 := []) rfl ?_
      exact ev_zret dX6_isItem_15 rfl rfl (Nat.le_of_ble_eq_true rfl) (Nat.le_refl _) (Nat.le_refl _) ⟨(congrArg (fun t => some (Value.int (nI t))) (b01_t (by omega)).symm), rfl⟩
theorem bX6_isHow_0_1 {l : Launch} {E : XE} : Snd l E mX6_isHow 0 1 (xs [x_iload 0]) := Snd.cons (snd_iload_n (i := 0) dX6_isHow_0 rfl) Snd.nil
theorem bX6_isHow_4_6 {l : Launch} {E : XE} : Snd l E mX6_isHow 4 6 (xs [x_iload 0, x_push (.int (nI 2))]) := Snd.cons (snd_iload_n (i := 0) dX6_isHow_4 rfl) (Snd.cons (snd_iconst (v := nI 2) dX6_isHow_5 (by decide)) Snd.nil)
theorem bX6_isHow_13_14 {l : Launch} {E : XE} : Snd l E mX6_isHow 13 14 (xs [x_push (.int (nI 0))]) := Snd.cons (snd_iconst (v := nI 0) dX6_isHow_13 (by decide)) Snd.nil
theorem bX6_isHow_9_14 {l : Launch} {E : XE} : Snd l E mX6_isHow 9 14 (xs [x_push (.int (nI 1)), x_id]) := Snd.cons (snd_iconst (v := nI 1) dX6_isHow_9 (by decide)) (Snd.cons (snd_goto (tgt := 14) dX6_isHow_10 (by decide)) Snd.nil)
set_option maxHeartbeats 4000000 in
set_option maxRecDepth 100000 in
theorem m_X6_isHow {l : Launch} {E : XE} (x : Nat) (hx : x < 2147483648) : MetE l E mX6_isHow (0) 0 0 [.int (nI (x))] ([]) (fun r w' => r = some (.int (nI (b01 (x < 3)))) ∧ w' = []) := by
  refine MetE.of (by decide +kernel) (Nat.le_of_ble_eq_true rfl) ?_
  refine ev_eq (lv' := [(0, .int (nI (x)))]) (st' := []) (w' := []) rfl rfl rfl ?_
  refine ev_b bX6_isHow_0_1 (lv' := [(0, .int (nI (x)))]) (st' := [.int (nI (x))]) (w2 := []) rfl ?_
  refine ev_if_lt_n (tgt := 13) (by omega) dX6_isHow_1 (by decide) (fun h1 => (by exfalso; omega)) (fun h1 => ?_)
  refine ev_b bX6_isHow_4_6 (lv' := [(0, .int (nI (x)))]) (st' := [.int (nI (2)), .int (nI (x))]) (w2 := []) rfl ?_
  refine ev_icmp_gt_n (tgt := 13) (by omega) (by decide) dX6_isHow_6 (by decide) (fun h6 => ?_) (fun h6 => ?_)
  · skip
    refine ev_b bX6_isHow_13_14 (lv' := [(0, .int (nI (x)))]) (st' := [.int (nI (0))]) (w2 := []) rfl ?_
    exact ev_zret dX6_isHow_14 rfl rfl (Nat.le_of_ble_eq_true rfl) (Nat.le_refl _) (Nat.le_refl _) ⟨(congrArg (fun t => some (Value.int (nI t))) (b01_f (by omega)).symm), rfl⟩
  · skip
    refine ev_b bX6_isHow_9_14 (lv' := [(0, .int (nI (x)))]) (st' := [.int (nI (1))]) (w2 := []) rfl ?_
    exact ev_zret dX6_isHow_14 rfl rfl (Nat.le_of_ble_eq_true rfl) (Nat.le_refl _) (Nat.le_refl _) ⟨(congrArg (fun t => some (Value.int (nI t))) (b01_t (by omega)).symm), rfl⟩
set_option maxHeartbeats 4000000 in
set_option maxRecDepth 100000 in
theorem m_X6_isHow_z {l : Launch} {E : XE} (x : Int) (hx : -2147483648 ≤ x ∧ x < 2147483648) : MetE l E mX6_isHow (0) 0 0 [.int (zI (x))] ([]) (fun r w' => r = some (.int (nI (b01 (0 ≤ x ∧ x < 3)))) ∧ w' = []) := by
  refine MetE.of (by decide +kernel) (Nat.le_of_ble_eq_true rfl) ?_
  refine ev_eq (lv' := [(0, .int (zI (x)))]) (st' := []) (w' := []) rfl rfl rfl ?_
  refine ev_b bX6_isHow_0_1 (lv' := [(0, .int (zI (x)))]) (st' := [.int (zI (x))]) (w2 := []) rfl ?_
  refine ev_if_lt_z (tgt := 13) (by constructor <;> omega) dX6_isHow_1 (by decide) (fun h1 => ?_) (fun h1 => ?_)
  · skip
    refine ev_b bX6_isHow_13_14 (lv' := [(0, .int (zI (x)))]) (st' := [.int (nI (0))]) (w2 := []) rfl ?_
    exact ev_zret dX6_isHow_14 rfl rfl (Nat.le_of_ble_eq_true rfl) (Nat.le_refl _) (Nat.le_refl _) ⟨(congrArg (fun t => some (Value.int (nI t))) (b01_f (by omega)).symm), rfl⟩
  · skip
    refine ev_b bX6_isHow_4_6 (lv' := [(0, .int (zI (x)))]) (st' := [.int (nI (2)), .int (zI (x))]) (w2 := []) rfl ?_
    refine ev_top (y := zI (((2 : Nat) : Int))) (zI_nat _).symm ?_
    refine ev_icmp_gt_z (tgt := 13) (by constructor <;> omega) (by constructor <;> omega) dX6_isHow_6 (by decide) (fun h6 => ?_) (fun h6 => ?_)
    · skip
      refine ev_b bX6_isHow_13_14 (lv' := [(0, .int (zI (x)))]) (st' := [.int (nI (0))]) (w2 := []) rfl ?_
      exact ev_zret dX6_isHow_14 rfl rfl (Nat.le_of_ble_eq_true rfl) (Nat.le_refl _) (Nat.le_refl _) ⟨(congrArg (fun t => some (Value.int (nI t))) (b01_f (by omega)).symm), rfl⟩
    · skip
      refine ev_b bX6_isHow_9_14 (lv' := [(0, .int (zI (x)))]) (st' := [.int (nI (1))]) (w2 := []) rfl ?_
      exact ev_zret dX6_isHow_14 rfl rfl (Nat.le_of_ble_eq_true rfl) (Nat.le_refl _) (Nat.le_refl _) ⟨(congrArg (fun t => some (Value.int (nI t))) (b01_t (by omega)).symm), rfl⟩
theorem bX3_isFull_0_6 {l : Launch} {E : XE} : Snd l E mX3_isFull 0 6 (xs [x_aload 0, x_get 4 7, x_push (.int (nI 10))]) := Snd.cons (snd_aload_n (i := 0) dX3_isFull_0 rfl) (Snd.cons (snd_get (ci := 4) (k := 7) dX3_isFull_1 rfl inX3 (by decide) tw_41) (Snd.cons (snd_bipush (v := nI 10) dX3_isFull_4 (by decide)) Snd.nil))
theorem bX3_isFull_13_14 {l : Launch} {E : XE} : Snd l E mX3_isFull 13 14 (xs [x_push (.int (nI 0))]) := Snd.cons (snd_iconst (v := nI 0) dX3_isFull_13 (by decide)) Snd.nil
theorem bX3_isFull_9_14 {l : Launch} {E : XE} : Snd l E mX3_isFull 9 14 (xs [x_push (.int (nI 1)), x_id]) := Snd.cons (snd_iconst (v := nI 1) dX3_isFull_9 (by decide)) (Snd.cons (snd_goto (tgt := 14) dX3_isFull_10 (by decide)) Snd.nil)
set_option maxHeartbeats 4000000 in
set_option maxRecDepth 100000 in
theorem m_X3_isFull {l : Launch} {E : XE} (S : SaleN) (hS : SaleOK S) : MetE l E mX3_isFull (0) 0 0 [.ref 0] (saleW 0 S) (fun r w' => r = some (.int (nI (b01 (10 ≤ S.ca)))) ∧ w' = saleW 0 S) := by
  refine MetE.of (by decide +kernel) (Nat.le_of_ble_eq_true rfl) ?_
  have hca := hS.1
  refine ev_eq (lv' := [(0, .ref 0)]) (st' := []) (w' := saleW 0 S) rfl rfl rfl ?_
  refine ev_b bX3_isFull_0_6 (lv' := [(0, .ref 0)]) (st' := [.int (nI (10)), .int (nI (S.ca))]) (w2 := saleW 0 S) rfl ?_
  refine ev_icmp_lt_n (tgt := 13) (by omega) (by decide) dX3_isFull_6 (by decide) (fun h6 => ?_) (fun h6 => ?_)
  · skip
    refine ev_b bX3_isFull_13_14 (lv' := [(0, .ref 0)]) (st' := [.int (nI (0))]) (w2 := saleW 0 S) rfl ?_
    exact ev_zret dX3_isFull_14 rfl rfl (Nat.le_of_ble_eq_true rfl) (Nat.le_refl _) (Nat.le_refl _) ⟨(congrArg (fun t => some (Value.int (nI t))) (b01_f (by omega)).symm), rfl⟩
  · skip
    refine ev_b bX3_isFull_9_14 (lv' := [(0, .ref 0)]) (st' := [.int (nI (1))]) (w2 := saleW 0 S) rfl ?_
    exact ev_zret dX3_isFull_14 rfl rfl (Nat.le_of_ble_eq_true rfl) (Nat.le_refl _) (Nat.le_refl _) ⟨(congrArg (fun t => some (Value.int (nI t))) (b01_t (by omega)).symm), rfl⟩
theorem bX3_hasBid_0_1 {l : Launch} {E : XE} : Snd l E mX3_hasBid 0 1 (xs [x_iload 1]) := Snd.cons (snd_iload_n (i := 1) dX3_hasBid_0 rfl) Snd.nil
theorem bX3_hasBid_4_9 {l : Launch} {E : XE} : Snd l E mX3_hasBid 4 9 (xs [x_iload 1, x_aload 0, x_get 4 7]) := Snd.cons (snd_iload_n (i := 1) dX3_hasBid_4 rfl) (Snd.cons (snd_aload_n (i := 0) dX3_hasBid_5 rfl) (Snd.cons (snd_get (ci := 4) (k := 7) dX3_hasBid_6 rfl inX3 (by decide) tw_41) Snd.nil))
theorem bX3_hasBid_22_23 {l : Launch} {E : XE} : Snd l E mX3_hasBid 22 23 (xs [x_push (.int (nI 0))]) := Snd.cons (snd_iconst (v := nI 0) dX3_hasBid_22 (by decide)) Snd.nil
theorem bX3_hasBid_12_15 {l : Launch} {E : XE} : Snd l E mX3_hasBid 12 15 (xs [x_iload 1, x_push (.int (nI 10))]) := Snd.cons (snd_iload_n (i := 1) dX3_hasBid_12 rfl) (Snd.cons (snd_bipush (v := nI 10) dX3_hasBid_13 (by decide)) Snd.nil)
theorem bX3_hasBid_18_23 {l : Launch} {E : XE} : Snd l E mX3_hasBid 18 23 (xs [x_push (.int (nI 1)), x_id]) := Snd.cons (snd_iconst (v := nI 1) dX3_hasBid_18 (by decide)) (Snd.cons (snd_goto (tgt := 23) dX3_hasBid_19 (by decide)) Snd.nil)
set_option maxHeartbeats 4000000 in
set_option maxRecDepth 100000 in
theorem m_X3_hasBid {l : Launch} {E : XE} (S : SaleN) (x : Nat) (hS : SaleOK S) (hx : x < 2147483648) : MetE l E mX3_hasBid (0) 0 0 [.ref 0, .int (nI (x))] (saleW 0 S) (fun r w' => r = some (.int (nI (b01 (x < S.ca)))) ∧ w' = saleW 0 S) := by
  refine MetE.of (by decide +kernel) (Nat.le_of_ble_eq_true rfl) ?_
  have hca := hS.1
  refine ev_eq (lv' := [(0, .ref 0), (1, .int (nI (x)))]) (st' := []) (w' := saleW 0 S) rfl rfl rfl ?_
  refine ev_b bX3_hasBid_0_1 (lv' := [(0, .ref 0), (1, .int (nI (x)))]) (st' := [.int (nI (x))]) (w2 := saleW 0 S) rfl ?_
  refine ev_if_lt_n (tgt := 22) (by omega) dX3_hasBid_1 (by decide) (fun h1 => (by exfalso; omega)) (fun h1 => ?_)
  refine ev_b bX3_hasBid_4_9 (lv' := [(0, .ref 0), (1, .int (nI (x)))]) (st' := [.int (nI (S.ca)), .int (nI (x))]) (w2 := saleW 0 S) rfl ?_
  refine ev_icmp_ge_n (tgt := 22) (by omega) (by omega) dX3_hasBid_9 (by decide) (fun h9 => ?_) (fun h9 => ?_)
  · skip
    refine ev_b bX3_hasBid_22_23 (lv' := [(0, .ref 0), (1, .int (nI (x)))]) (st' := [.int (nI (0))]) (w2 := saleW 0 S) rfl ?_
    exact ev_zret dX3_hasBid_23 rfl rfl (Nat.le_of_ble_eq_true rfl) (Nat.le_refl _) (Nat.le_refl _) ⟨(congrArg (fun t => some (Value.int (nI t))) (b01_f (by omega)).symm), rfl⟩
  · skip
    refine ev_b bX3_hasBid_12_15 (lv' := [(0, .ref 0), (1, .int (nI (x)))]) (st' := [.int (nI (10)), .int (nI (x))]) (w2 := saleW 0 S) rfl ?_
    refine ev_icmp_ge_n (tgt := 22) (by omega) (by decide) dX3_hasBid_15 (by decide) (fun h15 => ?_) (fun h15 => ?_)
    · skip
      refine ev_b bX3_hasBid_22_23 (lv' := [(0, .ref 0), (1, .int (nI (x)))]) (st' := [.int (nI (0))]) (w2 := saleW 0 S) rfl ?_
      exact ev_zret dX3_hasBid_23 rfl rfl (Nat.le_of_ble_eq_true rfl) (Nat.le_refl _) (Nat.le_refl _) ⟨(congrArg (fun t => some (Value.int (nI t))) (b01_f (by omega)).symm), rfl⟩
    · skip
      refine ev_b bX3_hasBid_18_23 (lv' := [(0, .ref 0), (1, .int (nI (x)))]) (st' := [.int (nI (1))]) (w2 := saleW 0 S) rfl ?_
      exact ev_zret dX3_hasBid_23 rfl rfl (Nat.le_of_ble_eq_true rfl) (Nat.le_refl _) (Nat.le_refl _) ⟨(congrArg (fun t => some (Value.int (nI t))) (b01_t (by omega)).symm), rfl⟩
set_option maxHeartbeats 4000000 in
set_option maxRecDepth 100000 in
theorem m_X3_hasBid_z {l : Launch} {E : XE} (S : SaleN) (x : Int) (hS : SaleOK S) (hx : -2147483648 ≤ x ∧ x < 2147483648) : MetE l E mX3_hasBid (0) 0 0 [.ref 0, .int (zI (x))] (saleW 0 S) (fun r w' => r = some (.int (nI (b01 (0 ≤ x ∧ x < S.ca)))) ∧ w' = saleW 0 S) := by
  refine MetE.of (by decide +kernel) (Nat.le_of_ble_eq_true rfl) ?_
  have hca := hS.1
  refine ev_eq (lv' := [(0, .ref 0), (1, .int (zI (x)))]) (st' := []) (w' := saleW 0 S) rfl rfl rfl ?_
  refine ev_b bX3_hasBid_0_1 (lv' := [(0, .ref 0), (1, .int (zI (x)))]) (st' := [.int (zI (x))]) (w2 := saleW 0 S) rfl ?_
  refine ev_if_lt_z (tgt := 22) (by constructor <;> omega) dX3_hasBid_1 (by decide) (fun h1 => ?_) (fun h1 => ?_)
  · skip
    refine ev_b bX3_hasBid_22_23 (lv' := [(0, .ref 0), (1, .int (zI (x)))]) (st' := [.int (nI (0))]) (w2 := saleW 0 S) rfl ?_
    exact ev_zret dX3_hasBid_23 rfl rfl (Nat.le_of_ble_eq_true rfl) (Nat.le_refl _) (Nat.le_refl _) ⟨(congrArg (fun t => some (Value.int (nI t))) (b01_f (by omega)).symm), rfl⟩
  · skip
    refine ev_b bX3_hasBid_4_9 (lv' := [(0, .ref 0), (1, .int (zI (x)))]) (st' := [.int (nI (S.ca)), .int (zI (x))]) (w2 := saleW 0 S) rfl ?_
    refine ev_top (y := zI (((S.ca : Nat) : Int))) (zI_nat _).symm ?_
    refine ev_icmp_ge_z (tgt := 22) (by constructor <;> omega) (by constructor <;> omega) dX3_hasBid_9 (by decide) (fun h9 => ?_) (fun h9 => ?_)
    · skip
      refine ev_b bX3_hasBid_22_23 (lv' := [(0, .ref 0), (1, .int (zI (x)))]) (st' := [.int (nI (0))]) (w2 := saleW 0 S) rfl ?_
      exact ev_zret dX3_hasBid_23 rfl rfl (Nat.le_of_ble_eq_true rfl) (Nat.le_refl _) (Nat.le_refl _) ⟨(congrArg (fun t => some (Value.int (nI t))) (b01_f (by omega)).symm), rfl⟩
    · skip
      refine ev_b bX3_hasBid_12_15 (lv' := [(0, .ref 0), (1, .int (zI (x)))]) (st' := [.int (nI (10)), .int (zI (x))]) (w2 := saleW 0 S) rfl ?_
      refine ev_top (y := zI (((10 : Nat) : Int))) (zI_nat _).symm ?_
      refine ev_icmp_ge_z (tgt := 22) (by constructor <;> omega) (by constructor <;> omega) dX3_hasBid_15 (by decide) (fun h15 => ?_) (fun h15 => ?_)
      · skip
        refine ev_b bX3_hasBid_22_23 (lv' := [(0, .ref 0), (1, .int (zI (x)))]) (st' := [.int (nI (0))]) (w2 := saleW 0 S) rfl ?_
        exact ev_zret dX3_hasBid_23 rfl rfl (Nat.le_of_ble_eq_true rfl) (Nat.le_refl _) (Nat.le_refl _) ⟨(congrArg (fun t => some (Value.int (nI t))) (b01_f (by omega)).symm), rfl⟩
      · skip
        refine ev_b bX3_hasBid_18_23 (lv' := [(0, .ref 0), (1, .int (zI (x)))]) (st' := [.int (nI (1))]) (w2 := saleW 0 S) rfl ?_
        exact ev_zret dX3_hasBid_23 rfl rfl (Nat.le_of_ble_eq_true rfl) (Nat.le_refl _) (Nat.le_refl _) ⟨(congrArg (fun t => some (Value.int (nI t))) (b01_t (by omega)).symm), rfl⟩
theorem bX3_bidderOf_0_2 {l : Launch} {E : XE} : Snd l E mX3_bidderOf 0 2 (xs [x_aload 0, x_iload 1]) := Snd.cons (snd_aload_n (i := 0) dX3_bidderOf_0 rfl) (Snd.cons (snd_iload_n (i := 1) dX3_bidderOf_1 rfl) Snd.nil)
theorem bX3_bidderOf_8_13 {l : Launch} {E : XE} : Snd l E mX3_bidderOf 8 13 (xs [x_aload 0, x_get 4 0, x_iload 1]) := Snd.cons (snd_aload_n (i := 0) dX3_bidderOf_8 rfl) (Snd.cons (snd_get (ci := 4) (k := 0) dX3_bidderOf_9 rfl inX3 (by decide) tw_34) (Snd.cons (snd_iload_n (i := 1) dX3_bidderOf_12 rfl) Snd.nil))
theorem bX3_bidderOf_14_19 {l : Launch} {E : XE} : Snd l E mX3_bidderOf 14 19 (xs [x_id]) := Snd.cons (snd_goto (tgt := 19) dX3_bidderOf_14 (by decide)) Snd.nil
set_option maxHeartbeats 4000000 in
set_option maxRecDepth 100000 in
theorem m_X3_bidderOf {l : Launch} {E : XE} (S : SaleN) (x : Nat) (hS : SaleOK S) (hx : x < S.ca) : MetE l E mX3_bidderOf (1) 0 0 [.ref 0, .int (nI (x))] (saleW 0 S) (fun r w' => r = some (.int (nI (S.bd x))) ∧ w' = saleW 0 S) := by
  refine MetE.of (by decide +kernel) (Nat.le_of_ble_eq_true rfl) ?_
  have hca := hS.1
  refine ev_eq (lv' := [(0, .ref 0), (1, .int (nI (x)))]) (st' := []) (w' := saleW 0 S) rfl rfl rfl ?_
  refine ev_b bX3_bidderOf_0_2 (lv' := [(0, .ref 0), (1, .int (nI (x)))]) (st' := [.int (nI (x)), .ref 0]) (w2 := saleW 0 S) rfl ?_
  refine ev_callV (Yc := mX3_hasBid) [0, 1, 2, 3, 4, 5, 6, 7] dX3_bidderOf_2 tw_414 kX3_hasBid (m_X3_hasBid S x hS (by omega)) rfl (st := []) rfl rfl rfl (by decide) rfl (by decide) (Nat.le_of_ble_eq_true rfl) (Nat.le_refl _) (Nat.le_refl _) (fun r w' h => by obtain ⟨-, rfl⟩ := h; exact Nat.le_of_ble_eq_true rfl) ?_
  rintro _ _ ⟨rfl, rfl⟩
  refine ev_eq (lv' := [(0, .ref 0), (1, .int (nI (x)))]) (st' := [.int (nI (b01 (x < S.ca)))]) (w' := saleW 0 S) rfl rfl rfl ?_
  refine ev_ifeq_b (tgt := 17) dX3_bidderOf_5 (by decide) (fun h5 => (by exfalso; omega)) (fun h5 => ?_)
  refine ev_b bX3_bidderOf_8_13 (lv' := [(0, .ref 0), (1, .int (nI (x)))]) (st' := [.int (nI (x)), .ref 1]) (w2 := saleW 0 S) rfl ?_
  refine ev_iald_n (f := S.bd) dX3_bidderOf_13 rfl (by omega) (by decide) ?_
  refine ev_b bX3_bidderOf_14_19 (lv' := [(0, .ref 0), (1, .int (nI (x)))]) (st' := [.int (nI (S.bd x))]) (w2 := saleW 0 S) rfl ?_
  exact ev_iret dX3_bidderOf_19 rfl (Nat.le_of_ble_eq_true rfl) (Nat.le_refl _) (Nat.le_refl _) ⟨rfl, rfl⟩
theorem bX3_setOf_0_2 {l : Launch} {E : XE} : Snd l E mX3_setOf 0 2 (xs [x_aload 0, x_iload 1]) := Snd.cons (snd_aload_n (i := 0) dX3_setOf_0 rfl) (Snd.cons (snd_iload_n (i := 1) dX3_setOf_1 rfl) Snd.nil)
theorem bX3_setOf_8_13 {l : Launch} {E : XE} : Snd l E mX3_setOf 8 13 (xs [x_aload 0, x_get 4 1, x_iload 1]) := Snd.cons (snd_aload_n (i := 0) dX3_setOf_8 rfl) (Snd.cons (snd_get (ci := 4) (k := 1) dX3_setOf_9 rfl inX3 (by decide) tw_35) (Snd.cons (snd_iload_n (i := 1) dX3_setOf_12 rfl) Snd.nil))
theorem bX3_setOf_14_18 {l : Launch} {E : XE} : Snd l E mX3_setOf 14 18 (xs [x_id]) := Snd.cons (snd_goto (tgt := 18) dX3_setOf_14 (by decide)) Snd.nil
set_option maxHeartbeats 4000000 in
set_option maxRecDepth 100000 in
theorem m_X3_setOf {l : Launch} {E : XE} (S : SaleN) (x : Nat) (hS : SaleOK S) (hx : x < S.ca) : MetE l E mX3_setOf (1) 0 0 [.ref 0, .int (nI (x))] (saleW 0 S) (fun r w' => r = some (.int (nI (S.st x))) ∧ w' = saleW 0 S) := by
  refine MetE.of (by decide +kernel) (Nat.le_of_ble_eq_true rfl) ?_
  have hca := hS.1
  refine ev_eq (lv' := [(0, .ref 0), (1, .int (nI (x)))]) (st' := []) (w' := saleW 0 S) rfl rfl rfl ?_
  refine ev_b bX3_setOf_0_2 (lv' := [(0, .ref 0), (1, .int (nI (x)))]) (st' := [.int (nI (x)), .ref 0]) (w2 := saleW 0 S) rfl ?_
  refine ev_callV (Yc := mX3_hasBid) [0, 1, 2, 3, 4, 5, 6, 7] dX3_setOf_2 tw_414 kX3_hasBid (m_X3_hasBid S x hS (by omega)) rfl (st := []) rfl rfl rfl (by decide) rfl (by decide) (Nat.le_of_ble_eq_true rfl) (Nat.le_refl _) (Nat.le_refl _) (fun r w' h => by obtain ⟨-, rfl⟩ := h; exact Nat.le_of_ble_eq_true rfl) ?_
  rintro _ _ ⟨rfl, rfl⟩
  refine ev_eq (lv' := [(0, .ref 0), (1, .int (nI (x)))]) (st' := [.int (nI (b01 (x < S.ca)))]) (w' := saleW 0 S) rfl rfl rfl ?_
  refine ev_ifeq_b (tgt := 17) dX3_setOf_5 (by decide) (fun h5 => (by exfalso; omega)) (fun h5 => ?_)
  refine ev_b bX3_setOf_8_13 (lv' := [(0, .ref 0), (1, .int (nI (x)))]) (st' := [.int (nI (x)), .ref 2]) (w2 := saleW 0 S) rfl ?_
  refine ev_iald_n (f := S.st) dX3_setOf_13 rfl (by omega) (by decide) ?_
  refine ev_b bX3_setOf_14_18 (lv' := [(0, .ref 0), (1, .int (nI (x)))]) (st' := [.int (nI (S.st x))]) (w2 := saleW 0 S) rfl ?_
  exact ev_iret dX3_setOf_18 rfl (Nat.le_of_ble_eq_true rfl) (Nat.le_refl _) (Nat.le_refl _) ⟨rfl, rfl⟩
theorem bX3_priceOf_0_2 {l : Launch} {E : XE} : Snd l E mX3_priceOf 0 2 (xs [x_aload 0, x_iload 1]) := Snd.cons (snd_aload_n (i := 0) dX3_priceOf_0 rfl) (Snd.cons (snd_iload_n (i := 1) dX3_priceOf_1 rfl) Snd.nil)
theorem bX3_priceOf_8_13 {l : Launch} {E : XE} : Snd l E mX3_priceOf 8 13 (xs [x_aload 0, x_get 4 2, x_iload 1]) := Snd.cons (snd_aload_n (i := 0) dX3_priceOf_8 rfl) (Snd.cons (snd_get (ci := 4) (k := 2) dX3_priceOf_9 rfl inX3 (by decide) tw_36) (Snd.cons (snd_iload_n (i := 1) dX3_priceOf_12 rfl) Snd.nil))
theorem bX3_priceOf_14_18 {l : Launch} {E : XE} : Snd l E mX3_priceOf 14 18 (xs [x_id]) := Snd.cons (snd_goto (tgt := 18) dX3_priceOf_14 (by decide)) Snd.nil
set_option maxHeartbeats 4000000 in
set_option maxRecDepth 100000 in
theorem m_X3_priceOf {l : Launch} {E : XE} (S : SaleN) (x : Nat) (hS : SaleOK S) (hx : x < S.ca) : MetE l E mX3_priceOf (1) 0 0 [.ref 0, .int (nI (x))] (saleW 0 S) (fun r w' => r = some (.int (nI (S.pr x))) ∧ w' = saleW 0 S) := by
  refine MetE.of (by decide +kernel) (Nat.le_of_ble_eq_true rfl) ?_
  have hca := hS.1
  refine ev_eq (lv' := [(0, .ref 0), (1, .int (nI (x)))]) (st' := []) (w' := saleW 0 S) rfl rfl rfl ?_
  refine ev_b bX3_priceOf_0_2 (lv' := [(0, .ref 0), (1, .int (nI (x)))]) (st' := [.int (nI (x)), .ref 0]) (w2 := saleW 0 S) rfl ?_
  refine ev_callV (Yc := mX3_hasBid) [0, 1, 2, 3, 4, 5, 6, 7] dX3_priceOf_2 tw_414 kX3_hasBid (m_X3_hasBid S x hS (by omega)) rfl (st := []) rfl rfl rfl (by decide) rfl (by decide) (Nat.le_of_ble_eq_true rfl) (Nat.le_refl _) (Nat.le_refl _) (fun r w' h => by obtain ⟨-, rfl⟩ := h; exact Nat.le_of_ble_eq_true rfl) ?_
  rintro _ _ ⟨rfl, rfl⟩
  refine ev_eq (lv' := [(0, .ref 0), (1, .int (nI (x)))]) (st' := [.int (nI (b01 (x < S.ca)))]) (w' := saleW 0 S) rfl rfl rfl ?_
  refine ev_ifeq_b (tgt := 17) dX3_priceOf_5 (by decide) (fun h5 => (by exfalso; omega)) (fun h5 => ?_)
  refine ev_b bX3_priceOf_8_13 (lv' := [(0, .ref 0), (1, .int (nI (x)))]) (st' := [.int (nI (x)), .ref 3]) (w2 := saleW 0 S) rfl ?_
  refine ev_iald_n (f := S.pr) dX3_priceOf_13 rfl (by omega) (by decide) ?_
  refine ev_b bX3_priceOf_14_18 (lv' := [(0, .ref 0), (1, .int (nI (x)))]) (st' := [.int (nI (S.pr x))]) (w2 := saleW 0 S) rfl ?_
  exact ev_iret dX3_priceOf_18 rfl (Nat.le_of_ble_eq_true rfl) (Nat.le_refl _) (Nat.le_refl _) ⟨rfl, rfl⟩
theorem bX3_kindOf_0_1 {l : Launch} {E : XE} : Snd l E mX3_kindOf 0 1 (xs [x_iload 1]) := Snd.cons (snd_iload_n (i := 1) dX3_kindOf_0 rfl) Snd.nil
theorem bX3_kindOf_7_12 {l : Launch} {E : XE} : Snd l E mX3_kindOf 7 12 (xs [x_aload 0, x_get 4 4, x_iload 1]) := Snd.cons (snd_aload_n (i := 0) dX3_kindOf_7 rfl) (Snd.cons (snd_get (ci := 4) (k := 4) dX3_kindOf_8 rfl inX3 (by decide) tw_38) (Snd.cons (snd_iload_n (i := 1) dX3_kindOf_11 rfl) Snd.nil))
theorem bX3_kindOf_13_17 {l : Launch} {E : XE} : Snd l E mX3_kindOf 13 17 (xs [x_id]) := Snd.cons (snd_goto (tgt := 17) dX3_kindOf_13 (by decide)) Snd.nil
set_option maxHeartbeats 4000000 in
set_option maxRecDepth 100000 in
theorem m_X3_kindOf {l : Launch} {E : XE} (S : SaleN) (x : Nat) (hx : x < 5) : MetE l E mX3_kindOf (1) 0 0 [.ref 0, .int (nI (x))] (saleW 0 S) (fun r w' => r = some (.int (nI (S.kd x))) ∧ w' = saleW 0 S) := by
  refine MetE.of (by decide +kernel) (Nat.le_of_ble_eq_true rfl) ?_
  refine ev_eq (lv' := [(0, .ref 0), (1, .int (nI (x)))]) (st' := []) (w' := saleW 0 S) rfl rfl rfl ?_
  refine ev_b bX3_kindOf_0_1 (lv' := [(0, .ref 0), (1, .int (nI (x)))]) (st' := [.int (nI (x))]) (w2 := saleW 0 S) rfl ?_
  refine ev_callSN (Yc := mX6_isBidder) [] dX3_kindOf_1 tn_409 kX6_isBidder (m_X6_isBidder x (by omega)) rfl (st := []) rfl (by decide) rfl (by decide) (Nat.le_of_ble_eq_true rfl) (Nat.le_refl _) (Nat.le_refl _) (fun r w' h => by obtain ⟨-, rfl⟩ := h; exact Nat.le_of_ble_eq_true rfl) ?_
  rintro _ _ ⟨rfl, rfl⟩
  refine ev_eq (lv' := [(0, .ref 0), (1, .int (nI (x)))]) (st' := [.int (nI (b01 (x < 5)))]) (w' := saleW 0 S) rfl rfl rfl ?_
  refine ev_ifeq_b (tgt := 16) dX3_kindOf_4 (by decide) (fun h4 => (by exfalso; omega)) (fun h4 => ?_)
  refine ev_b bX3_kindOf_7_12 (lv' := [(0, .ref 0), (1, .int (nI (x)))]) (st' := [.int (nI (x)), .ref 5]) (w2 := saleW 0 S) rfl ?_
  refine ev_iald_n (f := S.kd) dX3_kindOf_12 rfl (by omega) (by decide) ?_
  refine ev_b bX3_kindOf_13_17 (lv' := [(0, .ref 0), (1, .int (nI (x)))]) (st' := [.int (nI (S.kd x))]) (w2 := saleW 0 S) rfl ?_
  exact ev_iret dX3_kindOf_17 rfl (Nat.le_of_ble_eq_true rfl) (Nat.le_refl _) (Nat.le_refl _) ⟨rfl, rfl⟩
theorem bX3_figureOf_0_1 {l : Launch} {E : XE} : Snd l E mX3_figureOf 0 1 (xs [x_iload 1]) := Snd.cons (snd_iload_n (i := 1) dX3_figureOf_0 rfl) Snd.nil
theorem bX3_figureOf_7_12 {l : Launch} {E : XE} : Snd l E mX3_figureOf 7 12 (xs [x_aload 0, x_get 4 5, x_iload 1]) := Snd.cons (snd_aload_n (i := 0) dX3_figureOf_7 rfl) (Snd.cons (snd_get (ci := 4) (k := 5) dX3_figureOf_8 rfl inX3 (by decide) tw_39) (Snd.cons (snd_iload_n (i := 1) dX3_figureOf_11 rfl) Snd.nil))
theorem bX3_figureOf_13_17 {l : Launch} {E : XE} : Snd l E mX3_figureOf 13 17 (xs [x_id]) := Snd.cons (snd_goto (tgt := 17) dX3_figureOf_13 (by decide)) Snd.nil
set_option maxHeartbeats 4000000 in
set_option maxRecDepth 100000 in
theorem m_X3_figureOf {l : Launch} {E : XE} (S : SaleN) (x : Nat) (hx : x < 5) : MetE l E mX3_figureOf (1) 0 0 [.ref 0, .int (nI (x))] (saleW 0 S) (fun r w' => r = some (.int (nI (S.fg x))) ∧ w' = saleW 0 S) := by
  refine MetE.of (by decide +kernel) (Nat.le_of_ble_eq_true rfl) ?_
  refine ev_eq (lv' := [(0, .ref 0), (1, .int (nI (x)))]) (st' := []) (w' := saleW 0 S) rfl rfl rfl ?_
  refine ev_b bX3_figureOf_0_1 (lv' := [(0, .ref 0), (1, .int (nI (x)))]) (st' := [.int (nI (x))]) (w2 := saleW 0 S) rfl ?_
  refine ev_callSN (Yc := mX6_isBidder) [] dX3_figureOf_1 tn_409 kX6_isBidder (m_X6_isBidder x (by omega)) rfl (st := []) rfl (by decide) rfl (by decide) (Nat.le_of_ble_eq_true rfl) (Nat.le_refl _) (Nat.le_refl _) (fun r w' h => by obtain ⟨-, rfl⟩ := h; exact Nat.le_of_ble_eq_true rfl) ?_
  rintro _ _ ⟨rfl, rfl⟩
  refine ev_eq (lv' := [(0, .ref 0), (1, .int (nI (x)))]) (st' := [.int (nI (b01 (x < 5)))]) (w' := saleW 0 S) rfl rfl rfl ?_
  refine ev_ifeq_b (tgt := 16) dX3_figureOf_4 (by decide) (fun h4 => (by exfalso; omega)) (fun h4 => ?_)
  refine ev_b bX3_figureOf_7_12 (lv' := [(0, .ref 0), (1, .int (nI (x)))]) (st' := [.int (nI (x)), .ref 6]) (w2 := saleW 0 S) rfl ?_
  refine ev_iald_n (f := S.fg) dX3_figureOf_12 rfl (by omega) (by decide) ?_
  refine ev_b bX3_figureOf_13_17 (lv' := [(0, .ref 0), (1, .int (nI (x)))]) (st' := [.int (nI (S.fg x))]) (w2 := saleW 0 S) rfl ?_
  exact ev_iret dX3_figureOf_17 rfl (Nat.le_of_ble_eq_true rfl) (Nat.le_refl _) (Nat.le_refl _) ⟨rfl, rfl⟩
theorem bX3_reserveOf_0_1 {l : Launch} {E : XE} : Snd l E mX3_reserveOf 0 1 (xs [x_iload 1]) := Snd.cons (snd_iload_n (i := 1) dX3_reserveOf_0 rfl) Snd.nil
theorem bX3_reserveOf_7_12 {l : Launch} {E : XE} : Snd l E mX3_reserveOf 7 12 (xs [x_aload 0, x_get 4 6, x_iload 1]) := Snd.cons (snd_aload_n (i := 0) dX3_reserveOf_7 rfl) (Snd.cons (snd_get (ci := 4) (k := 6) dX3_reserveOf_8 rfl inX3 (by decide) tw_40) (Snd.cons (snd_iload_n (i := 1) dX3_reserveOf_11 rfl) Snd.nil))
theorem bX3_reserveOf_13_17 {l : Launch} {E : XE} : Snd l E mX3_reserveOf 13 17 (xs [x_id]) := Snd.cons (snd_goto (tgt := 17) dX3_reserveOf_13 (by decide)) Snd.nil
set_option maxHeartbeats 4000000 in
set_option maxRecDepth 100000 in
theorem m_X3_reserveOf {l : Launch} {E : XE} (S : SaleN) (x : Nat) (hx : x < 6) : MetE l E mX3_reserveOf (1) 0 0 [.ref 0, .int (nI (x))] (saleW 0 S) (fun r w' => r = some (.int (nI (S.rs x))) ∧ w' = saleW 0 S) := by
  refine MetE.of (by decide +kernel) (Nat.le_of_ble_eq_true rfl) ?_
  refine ev_eq (lv' := [(0, .ref 0), (1, .int (nI (x)))]) (st' := []) (w' := saleW 0 S) rfl rfl rfl ?_
  refine ev_b bX3_reserveOf_0_1 (lv' := [(0, .ref 0), (1, .int (nI (x)))]) (st' := [.int (nI (x))]) (w2 := saleW 0 S) rfl ?_
  refine ev_callSN (Yc := mX6_isItem) [] dX3_reserveOf_1 tn_423 kX6_isItem (m_X6_isItem x (by omega)) rfl (st := []) rfl (by decide) rfl (by decide) (Nat.le_of_ble_eq_true rfl) (Nat.le_refl _) (Nat.le_refl _) (fun r w' h => by obtain ⟨-, rfl⟩ := h; exact Nat.le_of_ble_eq_true rfl) ?_
  rintro _ _ ⟨rfl, rfl⟩
  refine ev_eq (lv' := [(0, .ref 0), (1, .int (nI (x)))]) (st' := [.int (nI (b01 (x < 6)))]) (w' := saleW 0 S) rfl rfl rfl ?_
  refine ev_ifeq_b (tgt := 16) dX3_reserveOf_4 (by decide) (fun h4 => (by exfalso; omega)) (fun h4 => ?_)
  refine ev_b bX3_reserveOf_7_12 (lv' := [(0, .ref 0), (1, .int (nI (x)))]) (st' := [.int (nI (x)), .ref 7]) (w2 := saleW 0 S) rfl ?_
  refine ev_iald_n (f := S.rs) dX3_reserveOf_12 rfl (by omega) (by decide) ?_
  refine ev_b bX3_reserveOf_13_17 (lv' := [(0, .ref 0), (1, .int (nI (x)))]) (st' := [.int (nI (S.rs x))]) (w2 := saleW 0 S) rfl ?_
  exact ev_iret dX3_reserveOf_17 rfl (Nat.le_of_ble_eq_true rfl) (Nat.le_refl _) (Nat.le_refl _) ⟨rfl, rfl⟩
theorem bX3_pricesOf_0_4 {l : Launch} {E : XE} : Snd l E mX3_pricesOf 0 4 (xs [x_push (.int (nI 0)), x_istore 2, x_push (.int (nI 0)), x_istore 3]) := Snd.cons (snd_iconst (v := nI 0) dX3_pricesOf_0 (by decide)) (Snd.cons (snd_istore_n (i := 2) dX3_pricesOf_1 rfl (by decide)) (Snd.cons (snd_iconst (v := nI 0) dX3_pricesOf_2 (by decide)) (Snd.cons (snd_istore_n (i := 3) dX3_pricesOf_3 rfl (by decide)) Snd.nil)))
theorem bX3_pricesOf_4_9 {l : Launch} {E : XE} : Snd l E mX3_pricesOf 4 9 (xs [x_iload 3, x_aload 0, x_get 4 7]) := Snd.cons (snd_iload_n (i := 3) dX3_pricesOf_4 rfl) (Snd.cons (snd_aload_n (i := 0) dX3_pricesOf_5 rfl) (Snd.cons (snd_get (ci := 4) (k := 7) dX3_pricesOf_6 rfl inX3 (by decide) tw_41) Snd.nil))
theorem bX3_pricesOf_41_42 {l : Launch} {E : XE} : Snd l E mX3_pricesOf 41 42 (xs [x_iload 2]) := Snd.cons (snd_iload_n (i := 2) dX3_pricesOf_41 rfl) Snd.nil
theorem bX3_pricesOf_12_15 {l : Launch} {E : XE} : Snd l E mX3_pricesOf 12 15 (xs [x_iload 3, x_push (.int (nI 10))]) := Snd.cons (snd_iload_n (i := 3) dX3_pricesOf_12 rfl) (Snd.cons (snd_bipush (v := nI 10) dX3_pricesOf_13 (by decide)) Snd.nil)
theorem bX3_pricesOf_18_21 {l : Launch} {E : XE} : Snd l E mX3_pricesOf 18 21 (xs [x_iload 1, x_push (.int (nI 1)), x_iload 3]) := Snd.cons (snd_iload_n (i := 1) dX3_pricesOf_18 rfl) (Snd.cons (snd_iconst (v := nI 1) dX3_pricesOf_19 (by decide)) (Snd.cons (snd_iload_n (i := 3) dX3_pricesOf_20 rfl) Snd.nil))
theorem bX3_pricesOf_38_4 {l : Launch} {E : XE} : Snd l E mX3_pricesOf 38 4 (xs [x_id]) := Snd.cons (snd_goto (tgt := 4) dX3_pricesOf_38 (by decide)) Snd.nil
theorem bX3_pricesOf_26_32 {l : Launch} {E : XE} : Snd l E mX3_pricesOf 26 32 (xs [x_iload 2, x_aload 0, x_get 4 2, x_iload 3]) := Snd.cons (snd_iload_n (i := 2) dX3_pricesOf_26 rfl) (Snd.cons (snd_aload_n (i := 0) dX3_pricesOf_27 rfl) (Snd.cons (snd_get (ci := 4) (k := 2) dX3_pricesOf_28 rfl inX3 (by decide) tw_36) (Snd.cons (snd_iload_n (i := 3) dX3_pricesOf_31 rfl) Snd.nil)))
theorem bX3_pricesOf_34_35 {l : Launch} {E : XE} : Snd l E mX3_pricesOf 34 35 (xs [x_istore 2]) := Snd.cons (snd_istore_n (i := 2) dX3_pricesOf_34 rfl (by decide)) Snd.nil
set_option maxHeartbeats 4000000 in
set_option maxRecDepth 100000 in
theorem m_X3_pricesOf {l : Launch} {E : XE} (S : SaleN) (bits : Nat) (hS : SaleOK S) (hb : bits < 2147483648) : MetE l E mX3_pricesOf (0) 0 0 [.ref 0, .int (nI (bits))] (saleW 0 S) (fun r w' => r = some (.int (nI (prTo S.pr bits S.ca))) ∧ w' = saleW 0 S) := by
  refine MetE.of (by decide +kernel) (Nat.le_of_ble_eq_true rfl) ?_
  have hca := hS.1
  refine ev_eq (lv' := [(0, .ref 0), (1, .int (nI (bits)))]) (st' := []) (w' := saleW 0 S) rfl rfl rfl ?_
  refine ev_b bX3_pricesOf_0_4 (lv' := [(3, .int (nI (0))), (2, .int (nI (0))), (0, .ref 0), (1, .int (nI (bits)))]) (st' := []) (w2 := saleW 0 S) rfl ?_
  have L4 : ∀ (j_ k : Nat), k + j_ = S.ca → Ev l E mX3_pricesOf (0) 0 0 (saleW 0 S) (fun r w' => r = some (.int (nI (prTo S.pr bits S.ca))) ∧ w' = saleW 0 S) 0 0 4 [(3, .int (nI (k))), (2, .int (nI (prTo S.pr bits k))), (0, .ref 0), (1, .int (nI (bits)))] [] (saleW 0 S) := by
    intro j_
    induction j_ with
    | zero =>
      intro k hk4  
      replace hk4 : k = S.ca := hk4
      subst hk4
      refine ev_b bX3_pricesOf_4_9 (lv' := [(3, .int (nI (S.ca))), (2, .int (nI (prTo S.pr bits S.ca))), (0, .ref 0), (1, .int (nI (bits)))]) (st' := [.int (nI (S.ca)), .int (nI (S.ca))]) (w2 := saleW 0 S) rfl ?_
      refine ev_icmp_ge_n (tgt := 41) (by omega) (by omega) dX3_pricesOf_9 (by decide) (fun h9 => ?_) (fun h9 => (by exfalso; omega))
      refine ev_b bX3_pricesOf_41_42 (lv' := [(3, .int (nI (S.ca))), (2, .int (nI (prTo S.pr bits S.ca))), (0, .ref 0), (1, .int (nI (bits)))]) (st' := [.int (nI (prTo S.pr bits S.ca))]) (w2 := saleW 0 S) rfl ?_
      exact ev_iret dX3_pricesOf_42 rfl (Nat.le_of_ble_eq_true rfl) (Nat.le_refl _) (Nat.le_refl _) ⟨rfl, rfl⟩
    | succ j_ ih4 =>
      intro k hk4  
      have hlt4 : k < S.ca := by omega
      refine ev_b bX3_pricesOf_4_9 (lv' := [(3, .int (nI (k))), (2, .int (nI (prTo S.pr bits k))), (0, .ref 0), (1, .int (nI (bits)))]) (st' := [.int (nI (S.ca)), .int (nI (k))]) (w2 := saleW 0 S) rfl ?_
      refine ev_icmp_ge_n (tgt := 41) (by omega) (by omega) dX3_pricesOf_9 (by decide) (fun h9 => (by exfalso; omega)) (fun h9 => ?_)
      refine ev_b bX3_pricesOf_12_15 (lv' := [(3, .int (nI (k))), (2, .int (nI (prTo S.pr bits k))), (0, .ref 0), (1, .int (nI (bits)))]) (st' := [.int (nI (10)), .int (nI (k))]) (w2 := saleW 0 S) rfl ?_
      refine ev_icmp_ge_n (tgt := 41) (by omega) (by decide) dX3_pricesOf_15 (by decide) (fun h15 => (by exfalso; omega)) (fun h15 => ?_)
      refine ev_b bX3_pricesOf_18_21 (lv' := [(3, .int (nI (k))), (2, .int (nI (prTo S.pr bits k))), (0, .ref 0), (1, .int (nI (bits)))]) (st' := [.int (nI (k)), .int (nI (1)), .int (nI (bits))]) (w2 := saleW 0 S) rfl ?_
      refine ev_ishl_n (by omega) dX3_pricesOf_21 ?_
      refine ev_iand_n dX3_pricesOf_22 ?_
      refine ev_if_eq_n (tgt := 35) (by exact Nat.lt_of_le_of_lt Nat.and_le_left hb) dX3_pricesOf_23 (by decide) (fun h23 => ?_) (fun h23 => ?_)
      · skip
        have h23b : ¬ bits.testBit k = true := fun z => (and_bit _ _).mpr z h23
        refine ev_iinc_n (x := k) (v := 1) dX3_pricesOf_35 rfl (by decide) ?_
        refine ev_eq (lv' := [(3, .int (nI (k + 1))), (2, .int (nI (prTo S.pr bits k))), (0, .ref 0), (1, .int (nI (bits)))]) rfl rfl rfl ?_
        refine ev_b bX3_pricesOf_38_4 (lv' := [(3, .int (nI (k + 1))), (2, .int (nI (prTo S.pr bits k))), (0, .ref 0), (1, .int (nI (bits)))]) (st' := []) (w2 := saleW 0 S) rfl ?_
        rw [show nI (k + 1) = nI ((k + 1)) from congrArg nI (by omega)]
        rw [show nI (prTo S.pr bits k) = nI (prTo S.pr bits (k + 1)) from congrArg nI (by rw [prTo_s]; first | rw [if_pos ((and_bit _ _).mp h23)] | (rw [if_neg h23b]; rfl))]
        exact ih4 (k + 1) (by omega) 
      · skip
        refine ev_b bX3_pricesOf_26_32 (lv' := [(3, .int (nI (k))), (2, .int (nI (prTo S.pr bits k))), (0, .ref 0), (1, .int (nI (bits)))]) (st' := [.int (nI (k)), .ref 3, .int (nI (prTo S.pr bits k))]) (w2 := saleW 0 S) rfl ?_
        refine ev_iald_n (f := S.pr) dX3_pricesOf_32 rfl (by omega) (by decide) ?_
        refine ev_iadd_n dX3_pricesOf_33 ?_
        refine ev_b bX3_pricesOf_34_35 (lv' := [(2, .int (nI ((prTo S.pr bits k) + (S.pr k)))), (3, .int (nI (k))), (0, .ref 0), (1, .int (nI (bits)))]) (st' := []) (w2 := saleW 0 S) rfl ?_
        refine ev_iinc_n (x := k) (v := 1) dX3_pricesOf_35 rfl (by decide) ?_
        refine ev_eq (lv' := [(3, .int (nI (k + 1))), (2, .int (nI ((prTo S.pr bits k) + (S.pr k)))), (0, .ref 0), (1, .int (nI (bits)))]) rfl rfl rfl ?_
        refine ev_b bX3_pricesOf_38_4 (lv' := [(3, .int (nI (k + 1))), (2, .int (nI ((prTo S.pr bits k) + (S.pr k)))), (0, .ref 0), (1, .int (nI (bits)))]) (st' := []) (w2 := saleW 0 S) rfl ?_
        rw [show nI (k + 1) = nI ((k + 1)) from congrArg nI (by omega)]
        rw [show nI ((prTo S.pr bits k) + (S.pr k)) = nI (prTo S.pr bits (k + 1)) from congrArg nI (by rw [prTo_s]; first | rw [if_pos ((and_bit _ _).mp h23)] | (rw [if_neg h23b]; rfl))]
        exact ih4 (k + 1) (by omega) 
  exact L4 S.ca 0 (by omega) 
theorem bX3_itemsOf_0_4 {l : Launch} {E : XE} : Snd l E mX3_itemsOf 0 4 (xs [x_push (.int (nI 0)), x_istore 2, x_push (.int (nI 0)), x_istore 3]) := Snd.cons (snd_iconst (v := nI 0) dX3_itemsOf_0 (by decide)) (Snd.cons (snd_istore_n (i := 2) dX3_itemsOf_1 rfl (by decide)) (Snd.cons (snd_iconst (v := nI 0) dX3_itemsOf_2 (by decide)) (Snd.cons (snd_istore_n (i := 3) dX3_itemsOf_3 rfl (by decide)) Snd.nil)))
theorem bX3_itemsOf_4_9 {l : Launch} {E : XE} : Snd l E mX3_itemsOf 4 9 (xs [x_iload 3, x_aload 0, x_get 4 7]) := Snd.cons (snd_iload_n (i := 3) dX3_itemsOf_4 rfl) (Snd.cons (snd_aload_n (i := 0) dX3_itemsOf_5 rfl) (Snd.cons (snd_get (ci := 4) (k := 7) dX3_itemsOf_6 rfl inX3 (by decide) tw_41) Snd.nil))
theorem bX3_itemsOf_41_42 {l : Launch} {E : XE} : Snd l E mX3_itemsOf 41 42 (xs [x_iload 2]) := Snd.cons (snd_iload_n (i := 2) dX3_itemsOf_41 rfl) Snd.nil
theorem bX3_itemsOf_12_15 {l : Launch} {E : XE} : Snd l E mX3_itemsOf 12 15 (xs [x_iload 3, x_push (.int (nI 10))]) := Snd.cons (snd_iload_n (i := 3) dX3_itemsOf_12 rfl) (Snd.cons (snd_bipush (v := nI 10) dX3_itemsOf_13 (by decide)) Snd.nil)
theorem bX3_itemsOf_18_21 {l : Launch} {E : XE} : Snd l E mX3_itemsOf 18 21 (xs [x_iload 1, x_push (.int (nI 1)), x_iload 3]) := Snd.cons (snd_iload_n (i := 1) dX3_itemsOf_18 rfl) (Snd.cons (snd_iconst (v := nI 1) dX3_itemsOf_19 (by decide)) (Snd.cons (snd_iload_n (i := 3) dX3_itemsOf_20 rfl) Snd.nil))
theorem bX3_itemsOf_38_4 {l : Launch} {E : XE} : Snd l E mX3_itemsOf 38 4 (xs [x_id]) := Snd.cons (snd_goto (tgt := 4) dX3_itemsOf_38 (by decide)) Snd.nil
theorem bX3_itemsOf_26_32 {l : Launch} {E : XE} : Snd l E mX3_itemsOf 26 32 (xs [x_iload 2, x_aload 0, x_get 4 1, x_iload 3]) := Snd.cons (snd_iload_n (i := 2) dX3_itemsOf_26 rfl) (Snd.cons (snd_aload_n (i := 0) dX3_itemsOf_27 rfl) (Snd.cons (snd_get (ci := 4) (k := 1) dX3_itemsOf_28 rfl inX3 (by decide) tw_35) (Snd.cons (snd_iload_n (i := 3) dX3_itemsOf_31 rfl) Snd.nil)))
theorem bX3_itemsOf_34_35 {l : Launch} {E : XE} : Snd l E mX3_itemsOf 34 35 (xs [x_istore 2]) := Snd.cons (snd_istore_n (i := 2) dX3_itemsOf_34 rfl (by decide)) Snd.nil
set_option maxHeartbeats 4000000 in
set_option maxRecDepth 100000 in
theorem m_X3_itemsOf {l : Launch} {E : XE} (S : SaleN) (bits : Nat) (hS : SaleOK S) (hb : bits < 2147483648) : MetE l E mX3_itemsOf (0) 0 0 [.ref 0, .int (nI (bits))] (saleW 0 S) (fun r w' => r = some (.int (nI (itTo S.st bits S.ca))) ∧ w' = saleW 0 S) := by
  refine MetE.of (by decide +kernel) (Nat.le_of_ble_eq_true rfl) ?_
  have hca := hS.1
  refine ev_eq (lv' := [(0, .ref 0), (1, .int (nI (bits)))]) (st' := []) (w' := saleW 0 S) rfl rfl rfl ?_
  refine ev_b bX3_itemsOf_0_4 (lv' := [(3, .int (nI (0))), (2, .int (nI (0))), (0, .ref 0), (1, .int (nI (bits)))]) (st' := []) (w2 := saleW 0 S) rfl ?_
  have L4 : ∀ (j_ k : Nat), k + j_ = S.ca → Ev l E mX3_itemsOf (0) 0 0 (saleW 0 S) (fun r w' => r = some (.int (nI (itTo S.st bits S.ca))) ∧ w' = saleW 0 S) 0 0 4 [(3, .int (nI (k))), (2, .int (nI (itTo S.st bits k))), (0, .ref 0), (1, .int (nI (bits)))] [] (saleW 0 S) := by
    intro j_
    induction j_ with
    | zero =>
      intro k hk4  
      replace hk4 : k = S.ca := hk4
      subst hk4
      refine ev_b bX3_itemsOf_4_9 (lv' := [(3, .int (nI (S.ca))), (2, .int (nI (itTo S.st bits S.ca))), (0, .ref 0), (1, .int (nI (bits)))]) (st' := [.int (nI (S.ca)), .int (nI (S.ca))]) (w2 := saleW 0 S) rfl ?_
      refine ev_icmp_ge_n (tgt := 41) (by omega) (by omega) dX3_itemsOf_9 (by decide) (fun h9 => ?_) (fun h9 => (by exfalso; omega))
      refine ev_b bX3_itemsOf_41_42 (lv' := [(3, .int (nI (S.ca))), (2, .int (nI (itTo S.st bits S.ca))), (0, .ref 0), (1, .int (nI (bits)))]) (st' := [.int (nI (itTo S.st bits S.ca))]) (w2 := saleW 0 S) rfl ?_
      exact ev_iret dX3_itemsOf_42 rfl (Nat.le_of_ble_eq_true rfl) (Nat.le_refl _) (Nat.le_refl _) ⟨rfl, rfl⟩
    | succ j_ ih4 =>
      intro k hk4  
      have hlt4 : k < S.ca := by omega
      refine ev_b bX3_itemsOf_4_9 (lv' := [(3, .int (nI (k))), (2, .int (nI (itTo S.st bits k))), (0, .ref 0), (1, .int (nI (bits)))]) (st' := [.int (nI (S.ca)), .int (nI (k))]) (w2 := saleW 0 S) rfl ?_
      refine ev_icmp_ge_n (tgt := 41) (by omega) (by omega) dX3_itemsOf_9 (by decide) (fun h9 => (by exfalso; omega)) (fun h9 => ?_)
      refine ev_b bX3_itemsOf_12_15 (lv' := [(3, .int (nI (k))), (2, .int (nI (itTo S.st bits k))), (0, .ref 0), (1, .int (nI (bits)))]) (st' := [.int (nI (10)), .int (nI (k))]) (w2 := saleW 0 S) rfl ?_
      refine ev_icmp_ge_n (tgt := 41) (by omega) (by decide) dX3_itemsOf_15 (by decide) (fun h15 => (by exfalso; omega)) (fun h15 => ?_)
      refine ev_b bX3_itemsOf_18_21 (lv' := [(3, .int (nI (k))), (2, .int (nI (itTo S.st bits k))), (0, .ref 0), (1, .int (nI (bits)))]) (st' := [.int (nI (k)), .int (nI (1)), .int (nI (bits))]) (w2 := saleW 0 S) rfl ?_
      refine ev_ishl_n (by omega) dX3_itemsOf_21 ?_
      refine ev_iand_n dX3_itemsOf_22 ?_
      refine ev_if_eq_n (tgt := 35) (by exact Nat.lt_of_le_of_lt Nat.and_le_left hb) dX3_itemsOf_23 (by decide) (fun h23 => ?_) (fun h23 => ?_)
      · skip
        have h23b : ¬ bits.testBit k = true := fun z => (and_bit _ _).mpr z h23
        refine ev_iinc_n (x := k) (v := 1) dX3_itemsOf_35 rfl (by decide) ?_
        refine ev_eq (lv' := [(3, .int (nI (k + 1))), (2, .int (nI (itTo S.st bits k))), (0, .ref 0), (1, .int (nI (bits)))]) rfl rfl rfl ?_
        refine ev_b bX3_itemsOf_38_4 (lv' := [(3, .int (nI (k + 1))), (2, .int (nI (itTo S.st bits k))), (0, .ref 0), (1, .int (nI (bits)))]) (st' := []) (w2 := saleW 0 S) rfl ?_
        rw [show nI (k + 1) = nI ((k + 1)) from congrArg nI (by omega)]
        rw [show nI (itTo S.st bits k) = nI (itTo S.st bits (k + 1)) from congrArg nI (by rw [itTo_s]; first | rw [if_pos ((and_bit _ _).mp h23)] | rw [if_neg h23b])]
        exact ih4 (k + 1) (by omega) 
      · skip
        refine ev_b bX3_itemsOf_26_32 (lv' := [(3, .int (nI (k))), (2, .int (nI (itTo S.st bits k))), (0, .ref 0), (1, .int (nI (bits)))]) (st' := [.int (nI (k)), .ref 2, .int (nI (itTo S.st bits k))]) (w2 := saleW 0 S) rfl ?_
        refine ev_iald_n (f := S.st) dX3_itemsOf_32 rfl (by omega) (by decide) ?_
        refine ev_ior_n dX3_itemsOf_33 ?_
        refine ev_b bX3_itemsOf_34_35 (lv' := [(2, .int (nI ((itTo S.st bits k) ||| (S.st k)))), (3, .int (nI (k))), (0, .ref 0), (1, .int (nI (bits)))]) (st' := []) (w2 := saleW 0 S) rfl ?_
        refine ev_iinc_n (x := k) (v := 1) dX3_itemsOf_35 rfl (by decide) ?_
        refine ev_eq (lv' := [(3, .int (nI (k + 1))), (2, .int (nI ((itTo S.st bits k) ||| (S.st k)))), (0, .ref 0), (1, .int (nI (bits)))]) rfl rfl rfl ?_
        refine ev_b bX3_itemsOf_38_4 (lv' := [(3, .int (nI (k + 1))), (2, .int (nI ((itTo S.st bits k) ||| (S.st k)))), (0, .ref 0), (1, .int (nI (bits)))]) (st' := []) (w2 := saleW 0 S) rfl ?_
        rw [show nI (k + 1) = nI ((k + 1)) from congrArg nI (by omega)]
        rw [show nI ((itTo S.st bits k) ||| (S.st k)) = nI (itTo S.st bits (k + 1)) from congrArg nI (by rw [itTo_s]; first | rw [if_pos ((and_bit _ _).mp h23)] | rw [if_neg h23b])]
        exact ih4 (k + 1) (by omega) 
  exact L4 S.ca 0 (by omega) 
theorem bX3_holders_0_4 {l : Launch} {E : XE} : Snd l E mX3_holders 0 4 (xs [x_push (.int (nI 0)), x_istore 2, x_push (.int (nI 0)), x_istore 3]) := Snd.cons (snd_iconst (v := nI 0) dX3_holders_0 (by decide)) (Snd.cons (snd_istore_n (i := 2) dX3_holders_1 rfl (by decide)) (Snd.cons (snd_iconst (v := nI 0) dX3_holders_2 (by decide)) (Snd.cons (snd_istore_n (i := 3) dX3_holders_3 rfl (by decide)) Snd.nil)))
theorem bX3_holders_4_9 {l : Launch} {E : XE} : Snd l E mX3_holders 4 9 (xs [x_iload 3, x_aload 0, x_get 4 7]) := Snd.cons (snd_iload_n (i := 3) dX3_holders_4 rfl) (Snd.cons (snd_aload_n (i := 0) dX3_holders_5 rfl) (Snd.cons (snd_get (ci := 4) (k := 7) dX3_holders_6 rfl inX3 (by decide) tw_41) Snd.nil))
theorem bX3_holders_41_46 {l : Launch} {E : XE} : Snd l E mX3_holders 41 46 (xs [x_iload 2, x_aload 0, x_get 4 8]) := Snd.cons (snd_iload_n (i := 2) dX3_holders_41 rfl) (Snd.cons (snd_aload_n (i := 0) dX3_holders_42 rfl) (Snd.cons (snd_get (ci := 4) (k := 8) dX3_holders_43 rfl inX3 (by decide) tw_46) Snd.nil))
theorem bX3_holders_12_15 {l : Launch} {E : XE} : Snd l E mX3_holders 12 15 (xs [x_iload 3, x_push (.int (nI 10))]) := Snd.cons (snd_iload_n (i := 3) dX3_holders_12 rfl) (Snd.cons (snd_bipush (v := nI 10) dX3_holders_13 (by decide)) Snd.nil)
theorem bX3_holders_18_23 {l : Launch} {E : XE} : Snd l E mX3_holders 18 23 (xs [x_aload 0, x_get 4 1, x_iload 3]) := Snd.cons (snd_aload_n (i := 0) dX3_holders_18 rfl) (Snd.cons (snd_get (ci := 4) (k := 1) dX3_holders_19 rfl inX3 (by decide) tw_35) (Snd.cons (snd_iload_n (i := 3) dX3_holders_22 rfl) Snd.nil))
theorem bX3_holders_24_25 {l : Launch} {E : XE} : Snd l E mX3_holders 24 25 (xs [x_iload 1]) := Snd.cons (snd_iload_n (i := 1) dX3_holders_24 rfl) Snd.nil
theorem bX3_holders_38_4 {l : Launch} {E : XE} : Snd l E mX3_holders 38 4 (xs [x_id]) := Snd.cons (snd_goto (tgt := 4) dX3_holders_38 (by decide)) Snd.nil
theorem bX3_holders_29_32 {l : Launch} {E : XE} : Snd l E mX3_holders 29 32 (xs [x_iload 2, x_push (.int (nI 1)), x_iload 3]) := Snd.cons (snd_iload_n (i := 2) dX3_holders_29 rfl) (Snd.cons (snd_iconst (v := nI 1) dX3_holders_30 (by decide)) (Snd.cons (snd_iload_n (i := 3) dX3_holders_31 rfl) Snd.nil))
theorem bX3_holders_34_35 {l : Launch} {E : XE} : Snd l E mX3_holders 34 35 (xs [x_istore 2]) := Snd.cons (snd_istore_n (i := 2) dX3_holders_34 rfl (by decide)) Snd.nil
set_option maxHeartbeats 4000000 in
set_option maxRecDepth 100000 in
theorem m_X3_holders {l : Launch} {E : XE} (S : SaleN) (items : Nat) (hS : SaleOK S) (hi : items < 2147483648) : MetE l E mX3_holders (0) 0 0 [.ref 0, .int (nI (items))] (saleW 0 S) (fun r w' => r = some (.int (nI (hdTo S.st items S.ca &&& S.ac))) ∧ w' = saleW 0 S) := by
  refine MetE.of (by decide +kernel) (Nat.le_of_ble_eq_true rfl) ?_
  have hca := hS.1
  refine ev_eq (lv' := [(0, .ref 0), (1, .int (nI (items)))]) (st' := []) (w' := saleW 0 S) rfl rfl rfl ?_
  refine ev_b bX3_holders_0_4 (lv' := [(3, .int (nI (0))), (2, .int (nI (0))), (0, .ref 0), (1, .int (nI (items)))]) (st' := []) (w2 := saleW 0 S) rfl ?_
  have L4 : ∀ (j_ k : Nat), k + j_ = S.ca → Ev l E mX3_holders (0) 0 0 (saleW 0 S) (fun r w' => r = some (.int (nI (hdTo S.st items S.ca &&& S.ac))) ∧ w' = saleW 0 S) 0 0 4 [(3, .int (nI (k))), (2, .int (nI (hdTo S.st items k))), (0, .ref 0), (1, .int (nI (items)))] [] (saleW 0 S) := by
    intro j_
    induction j_ with
    | zero =>
      intro k hk4  
      replace hk4 : k = S.ca := hk4
      subst hk4
      refine ev_b bX3_holders_4_9 (lv' := [(3, .int (nI (S.ca))), (2, .int (nI (hdTo S.st items S.ca))), (0, .ref 0), (1, .int (nI (items)))]) (st' := [.int (nI (S.ca)), .int (nI (S.ca))]) (w2 := saleW 0 S) rfl ?_
      refine ev_icmp_ge_n (tgt := 41) (by omega) (by omega) dX3_holders_9 (by decide) (fun h9 => ?_) (fun h9 => (by exfalso; omega))
      refine ev_b bX3_holders_41_46 (lv' := [(3, .int (nI (S.ca))), (2, .int (nI (hdTo S.st items S.ca))), (0, .ref 0), (1, .int (nI (items)))]) (st' := [.int (nI (S.ac)), .int (nI (hdTo S.st items S.ca))]) (w2 := saleW 0 S) rfl ?_
      refine ev_iand_n dX3_holders_46 ?_
      exact ev_iret dX3_holders_47 rfl (Nat.le_of_ble_eq_true rfl) (Nat.le_refl _) (Nat.le_refl _) ⟨(congrArg (fun t => some (Value.int (nI t))) (show (hdTo S.st items S.ca) &&& S.ac = hdTo S.st items S.ca &&& S.ac from by omega)), rfl⟩
    | succ j_ ih4 =>
      intro k hk4  
      have hlt4 : k < S.ca := by omega
      refine ev_b bX3_holders_4_9 (lv' := [(3, .int (nI (k))), (2, .int (nI (hdTo S.st items k))), (0, .ref 0), (1, .int (nI (items)))]) (st' := [.int (nI (S.ca)), .int (nI (k))]) (w2 := saleW 0 S) rfl ?_
      refine ev_icmp_ge_n (tgt := 41) (by omega) (by omega) dX3_holders_9 (by decide) (fun h9 => (by exfalso; omega)) (fun h9 => ?_)
      refine ev_b bX3_holders_12_15 (lv' := [(3, .int (nI (k))), (2, .int (nI (hdTo S.st items k))), (0, .ref 0), (1, .int (nI (items)))]) (st' := [.int (nI (10)), .int (nI (k))]) (w2 := saleW 0 S) rfl ?_
      refine ev_icmp_ge_n (tgt := 41) (by omega) (by decide) dX3_holders_15 (by decide) (fun h15 => (by exfalso; omega)) (fun h15 => ?_)
      refine ev_b bX3_holders_18_23 (lv' := [(3, .int (nI (k))), (2, .int (nI (hdTo S.st items k))), (0, .ref 0), (1, .int (nI (items)))]) (st' := [.int (nI (k)), .ref 2]) (w2 := saleW 0 S) rfl ?_
      refine ev_iald_n (f := S.st) dX3_holders_23 rfl (by omega) (by decide) ?_
      refine ev_b bX3_holders_24_25 (lv' := [(3, .int (nI (k))), (2, .int (nI (hdTo S.st items k))), (0, .ref 0), (1, .int (nI (items)))]) (st' := [.int (nI (items)), .int (nI (S.st k))]) (w2 := saleW 0 S) rfl ?_
      refine ev_iand_n dX3_holders_25 ?_
      refine ev_if_eq_n (tgt := 35) (by exact Nat.lt_of_le_of_lt Nat.and_le_right hi) dX3_holders_26 (by decide) (fun h26 => ?_) (fun h26 => ?_)
      · skip
        refine ev_iinc_n (x := k) (v := 1) dX3_holders_35 rfl (by decide) ?_
        refine ev_eq (lv' := [(3, .int (nI (k + 1))), (2, .int (nI (hdTo S.st items k))), (0, .ref 0), (1, .int (nI (items)))]) rfl rfl rfl ?_
        refine ev_b bX3_holders_38_4 (lv' := [(3, .int (nI (k + 1))), (2, .int (nI (hdTo S.st items k))), (0, .ref 0), (1, .int (nI (items)))]) (st' := []) (w2 := saleW 0 S) rfl ?_
        rw [show nI (k + 1) = nI ((k + 1)) from congrArg nI (by omega)]
        rw [show nI (hdTo S.st items k) = nI (hdTo S.st items (k + 1)) from congrArg nI (by rw [hdTo_s]; first | rw [if_pos h26] | rw [if_neg (fun z => z h26)])]
        exact ih4 (k + 1) (by omega) 
      · skip
        refine ev_b bX3_holders_29_32 (lv' := [(3, .int (nI (k))), (2, .int (nI (hdTo S.st items k))), (0, .ref 0), (1, .int (nI (items)))]) (st' := [.int (nI (k)), .int (nI (1)), .int (nI (hdTo S.st items k))]) (w2 := saleW 0 S) rfl ?_
        refine ev_ishl_n (by omega) dX3_holders_32 ?_
        refine ev_ior_n dX3_holders_33 ?_
        refine ev_b bX3_holders_34_35 (lv' := [(2, .int (nI ((hdTo S.st items k) ||| (1 <<< k)))), (3, .int (nI (k))), (0, .ref 0), (1, .int (nI (items)))]) (st' := []) (w2 := saleW 0 S) rfl ?_
        refine ev_iinc_n (x := k) (v := 1) dX3_holders_35 rfl (by decide) ?_
        refine ev_eq (lv' := [(3, .int (nI (k + 1))), (2, .int (nI ((hdTo S.st items k) ||| (1 <<< k)))), (0, .ref 0), (1, .int (nI (items)))]) rfl rfl rfl ?_
        refine ev_b bX3_holders_38_4 (lv' := [(3, .int (nI (k + 1))), (2, .int (nI ((hdTo S.st items k) ||| (1 <<< k)))), (0, .ref 0), (1, .int (nI (items)))]) (st' := []) (w2 := saleW 0 S) rfl ?_
        rw [show nI (k + 1) = nI ((k + 1)) from congrArg nI (by omega)]
        rw [show nI ((hdTo S.st items k) ||| (1 <<< k)) = nI (hdTo S.st items (k + 1)) from congrArg nI (by rw [hdTo_s]; first | rw [if_pos h26] | rw [if_neg (fun z => z h26)])]
        exact ih4 (k + 1) (by omega) 
  exact L4 S.ca 0 (by omega) 
theorem bX3_reservesBut_0_4 {l : Launch} {E : XE} : Snd l E mX3_reservesBut 0 4 (xs [x_push (.int (nI 0)), x_istore 2, x_push (.int (nI 0)), x_istore 3]) := Snd.cons (snd_iconst (v := nI 0) dX3_reservesBut_0 (by decide)) (Snd.cons (snd_istore_n (i := 2) dX3_reservesBut_1 rfl (by decide)) (Snd.cons (snd_iconst (v := nI 0) dX3_reservesBut_2 (by decide)) (Snd.cons (snd_istore_n (i := 3) dX3_reservesBut_3 rfl (by decide)) Snd.nil)))
theorem bX3_reservesBut_4_7 {l : Launch} {E : XE} : Snd l E mX3_reservesBut 4 7 (xs [x_iload 3, x_push (.int (nI 6))]) := Snd.cons (snd_iload_n (i := 3) dX3_reservesBut_4 rfl) (Snd.cons (snd_bipush (v := nI 6) dX3_reservesBut_5 (by decide)) Snd.nil)
theorem bX3_reservesBut_33_34 {l : Launch} {E : XE} : Snd l E mX3_reservesBut 33 34 (xs [x_iload 2]) := Snd.cons (snd_iload_n (i := 2) dX3_reservesBut_33 rfl) Snd.nil
theorem bX3_reservesBut_10_12 {l : Launch} {E : XE} : Snd l E mX3_reservesBut 10 12 (xs [x_iload 1, x_iload 3]) := Snd.cons (snd_iload_n (i := 1) dX3_reservesBut_10 rfl) (Snd.cons (snd_iload_n (i := 3) dX3_reservesBut_11 rfl) Snd.nil)
theorem bX3_reservesBut_30_4 {l : Launch} {E : XE} : Snd l E mX3_reservesBut 30 4 (xs [x_id]) := Snd.cons (snd_goto (tgt := 4) dX3_reservesBut_30 (by decide)) Snd.nil
theorem bX3_reservesBut_18_24 {l : Launch} {E : XE} : Snd l E mX3_reservesBut 18 24 (xs [x_iload 2, x_aload 0, x_get 4 6, x_iload 3]) := Snd.cons (snd_iload_n (i := 2) dX3_reservesBut_18 rfl) (Snd.cons (snd_aload_n (i := 0) dX3_reservesBut_19 rfl) (Snd.cons (snd_get (ci := 4) (k := 6) dX3_reservesBut_20 rfl inX3 (by decide) tw_40) (Snd.cons (snd_iload_n (i := 3) dX3_reservesBut_23 rfl) Snd.nil)))
theorem bX3_reservesBut_26_27 {l : Launch} {E : XE} : Snd l E mX3_reservesBut 26 27 (xs [x_istore 2]) := Snd.cons (snd_istore_n (i := 2) dX3_reservesBut_26 rfl (by decide)) Snd.nil
set_option maxHeartbeats 4000000 in
set_option maxRecDepth 100000 in
theorem m_X3_reservesBut {l : Launch} {E : XE} (S : SaleN) (items : Nat) (hi : items < 2147483648) : MetE l E mX3_reservesBut (1) 0 0 [.ref 0, .int (nI (items))] (saleW 0 S) (fun r w' => r = some (.int (nI (rbTo S.rs items 6))) ∧ w' = saleW 0 S) := by
  refine MetE.of (by decide +kernel) (Nat.le_of_ble_eq_true rfl) ?_
  refine ev_eq (lv' := [(0, .ref 0), (1, .int (nI (items)))]) (st' := []) (w' := saleW 0 S) rfl rfl rfl ?_
  refine ev_b bX3_reservesBut_0_4 (lv' := [(3, .int (nI (0))), (2, .int (nI (0))), (0, .ref 0), (1, .int (nI (items)))]) (st' := []) (w2 := saleW 0 S) rfl ?_
  have L4 : ∀ (j_ k : Nat), k + j_ = 6 → Ev l E mX3_reservesBut (1) 0 0 (saleW 0 S) (fun r w' => r = some (.int (nI (rbTo S.rs items 6))) ∧ w' = saleW 0 S) 0 0 4 [(3, .int (nI (k))), (2, .int (nI (rbTo S.rs items k))), (0, .ref 0), (1, .int (nI (items)))] [] (saleW 0 S) := by
    intro j_
    induction j_ with
    | zero =>
      intro k hk4  
      replace hk4 : k = 6 := hk4
      subst hk4
      refine ev_b bX3_reservesBut_4_7 (lv' := [(3, .int (nI (6))), (2, .int (nI (rbTo S.rs items 6))), (0, .ref 0), (1, .int (nI (items)))]) (st' := [.int (nI (6)), .int (nI (6))]) (w2 := saleW 0 S) rfl ?_
      refine ev_icmp_ge_n (tgt := 33) (by decide) (by decide) dX3_reservesBut_7 (by decide) (fun h7 => ?_) (fun h7 => (by exfalso; omega))
      refine ev_b bX3_reservesBut_33_34 (lv' := [(3, .int (nI (6))), (2, .int (nI (rbTo S.rs items 6))), (0, .ref 0), (1, .int (nI (items)))]) (st' := [.int (nI (rbTo S.rs items 6))]) (w2 := saleW 0 S) rfl ?_
      exact ev_iret dX3_reservesBut_34 rfl (Nat.le_of_ble_eq_true rfl) (Nat.le_refl _) (Nat.le_refl _) ⟨rfl, rfl⟩
    | succ j_ ih4 =>
      intro k hk4  
      have hlt4 : k < 6 := by omega
      refine ev_b bX3_reservesBut_4_7 (lv' := [(3, .int (nI (k))), (2, .int (nI (rbTo S.rs items k))), (0, .ref 0), (1, .int (nI (items)))]) (st' := [.int (nI (6)), .int (nI (k))]) (w2 := saleW 0 S) rfl ?_
      refine ev_icmp_ge_n (tgt := 33) (by omega) (by decide) dX3_reservesBut_7 (by decide) (fun h7 => (by exfalso; omega)) (fun h7 => ?_)
      refine ev_b bX3_reservesBut_10_12 (lv' := [(3, .int (nI (k))), (2, .int (nI (rbTo S.rs items k))), (0, .ref 0), (1, .int (nI (items)))]) (st' := [.int (nI (k)), .int (nI (items))]) (w2 := saleW 0 S) rfl ?_
      refine ev_callSN (Yc := mX6_bitAt) [] dX3_reservesBut_12 tn_509 kX6_bitAt (m_X6_bitAt items k hi (by omega)) rfl (st := []) rfl (by decide) rfl (by decide) (Nat.le_of_ble_eq_true rfl) (Nat.le_refl _) (Nat.le_refl _) (fun r w' h => by obtain ⟨-, rfl⟩ := h; exact Nat.le_of_ble_eq_true rfl) ?_
      rintro _ _ ⟨rfl, rfl⟩
      refine ev_eq (lv' := [(3, .int (nI (k))), (2, .int (nI (rbTo S.rs items k))), (0, .ref 0), (1, .int (nI (items)))]) (st' := [.int (nI (b01 (items.testBit k = true)))]) (w' := saleW 0 S) rfl rfl rfl ?_
      refine ev_ifne_b (tgt := 27) dX3_reservesBut_15 (by decide) (fun h15 => ?_) (fun h15 => ?_)
      · skip
        refine ev_iinc_n (x := k) (v := 1) dX3_reservesBut_27 rfl (by decide) ?_
        refine ev_eq (lv' := [(3, .int (nI (k + 1))), (2, .int (nI (rbTo S.rs items k))), (0, .ref 0), (1, .int (nI (items)))]) rfl rfl rfl ?_
        refine ev_b bX3_reservesBut_30_4 (lv' := [(3, .int (nI (k + 1))), (2, .int (nI (rbTo S.rs items k))), (0, .ref 0), (1, .int (nI (items)))]) (st' := []) (w2 := saleW 0 S) rfl ?_
        rw [show nI (k + 1) = nI ((k + 1)) from congrArg nI (by omega)]
        rw [show nI (rbTo S.rs items k) = nI (rbTo S.rs items (k + 1)) from congrArg nI (by rw [rbTo_s]; first | rw [if_pos h15]; rfl | rw [if_neg h15])]
        exact ih4 (k + 1) (by omega) 
      · skip
        refine ev_b bX3_reservesBut_18_24 (lv' := [(3, .int (nI (k))), (2, .int (nI (rbTo S.rs items k))), (0, .ref 0), (1, .int (nI (items)))]) (st' := [.int (nI (k)), .ref 7, .int (nI (rbTo S.rs items k))]) (w2 := saleW 0 S) rfl ?_
        refine ev_iald_n (f := S.rs) dX3_reservesBut_24 rfl (by omega) (by decide) ?_
        refine ev_iadd_n dX3_reservesBut_25 ?_
        refine ev_b bX3_reservesBut_26_27 (lv' := [(2, .int (nI ((rbTo S.rs items k) + (S.rs k)))), (3, .int (nI (k))), (0, .ref 0), (1, .int (nI (items)))]) (st' := []) (w2 := saleW 0 S) rfl ?_
        refine ev_iinc_n (x := k) (v := 1) dX3_reservesBut_27 rfl (by decide) ?_
        refine ev_eq (lv' := [(3, .int (nI (k + 1))), (2, .int (nI ((rbTo S.rs items k) + (S.rs k)))), (0, .ref 0), (1, .int (nI (items)))]) rfl rfl rfl ?_
        refine ev_b bX3_reservesBut_30_4 (lv' := [(3, .int (nI (k + 1))), (2, .int (nI ((rbTo S.rs items k) + (S.rs k)))), (0, .ref 0), (1, .int (nI (items)))]) (st' := []) (w2 := saleW 0 S) rfl ?_
        rw [show nI (k + 1) = nI ((k + 1)) from congrArg nI (by omega)]
        rw [show nI ((rbTo S.rs items k) + (S.rs k)) = nI (rbTo S.rs items (k + 1)) from congrArg nI (by rw [rbTo_s]; first | rw [if_pos h15]; rfl | rw [if_neg h15])]
        exact ih4 (k + 1) (by omega) 
  exact L4 6 0 (by omega) 
set_option maxHeartbeats 4000000 in
set_option maxRecDepth 100000 in
theorem m_X3_reservesBut_not {l : Launch} {E : XE} (S : SaleN) (set : Nat)  : MetE l E mX3_reservesBut (1) 0 0 [.ref 0, .int (nI (set) ^^^ (-1))] (saleW 0 S) (fun r w' => r = some (.int (nI (rsTo S.rs set 6))) ∧ w' = saleW 0 S) := by
  refine MetE.of (by decide +kernel) (Nat.le_of_ble_eq_true rfl) ?_
  refine ev_eq (lv' := [(0, .ref 0), (1, .int (nI (set) ^^^ (-1)))]) (st' := []) (w' := saleW 0 S) rfl rfl rfl ?_
  refine ev_b bX3_reservesBut_0_4 (lv' := [(3, .int (nI (0))), (2, .int (nI (0))), (0, .ref 0), (1, .int (nI (set) ^^^ (-1)))]) (st' := []) (w2 := saleW 0 S) rfl ?_
  have L4 : ∀ (j_ k : Nat), k + j_ = 6 → Ev l E mX3_reservesBut (1) 0 0 (saleW 0 S) (fun r w' => r = some (.int (nI (rsTo S.rs set 6))) ∧ w' = saleW 0 S) 0 0 4 [(3, .int (nI (k))), (2, .int (nI (rsTo S.rs set k))), (0, .ref 0), (1, .int (nI (set) ^^^ (-1)))] [] (saleW 0 S) := by
    intro j_
    induction j_ with
    | zero =>
      intro k hk4  
      replace hk4 : k = 6 := hk4
      subst hk4
      refine ev_b bX3_reservesBut_4_7 (lv' := [(3, .int (nI (6))), (2, .int (nI (rsTo S.rs set 6))), (0, .ref 0), (1, .int (nI (set) ^^^ (-1)))]) (st' := [.int (nI (6)), .int (nI (6))]) (w2 := saleW 0 S) rfl ?_
      refine ev_icmp_ge_n (tgt := 33) (by decide) (by decide) dX3_reservesBut_7 (by decide) (fun h7 => ?_) (fun h7 => (by exfalso; omega))
      refine ev_b bX3_reservesBut_33_34 (lv' := [(3, .int (nI (6))), (2, .int (nI (rsTo S.rs set 6))), (0, .ref 0), (1, .int (nI (set) ^^^ (-1)))]) (st' := [.int (nI (rsTo S.rs set 6))]) (w2 := saleW 0 S) rfl ?_
      exact ev_iret dX3_reservesBut_34 rfl (Nat.le_of_ble_eq_true rfl) (Nat.le_refl _) (Nat.le_refl _) ⟨rfl, rfl⟩
    | succ j_ ih4 =>
      intro k hk4  
      have hlt4 : k < 6 := by omega
      refine ev_b bX3_reservesBut_4_7 (lv' := [(3, .int (nI (k))), (2, .int (nI (rsTo S.rs set k))), (0, .ref 0), (1, .int (nI (set) ^^^ (-1)))]) (st' := [.int (nI (6)), .int (nI (k))]) (w2 := saleW 0 S) rfl ?_
      refine ev_icmp_ge_n (tgt := 33) (by omega) (by decide) dX3_reservesBut_7 (by decide) (fun h7 => (by exfalso; omega)) (fun h7 => ?_)
      refine ev_b bX3_reservesBut_10_12 (lv' := [(3, .int (nI (k))), (2, .int (nI (rsTo S.rs set k))), (0, .ref 0), (1, .int (nI (set) ^^^ (-1)))]) (st' := [.int (nI (k)), .int (nI (set) ^^^ (-1))]) (w2 := saleW 0 S) rfl ?_
      refine ev_callSN (Yc := mX6_bitAt) [] dX3_reservesBut_12 tn_509 kX6_bitAt (m_X6_bitAt_not set k (by omega)) rfl (st := []) rfl (by decide) rfl (by decide) (Nat.le_of_ble_eq_true rfl) (Nat.le_refl _) (Nat.le_refl _) (fun r w' h => by obtain ⟨-, rfl⟩ := h; exact Nat.le_of_ble_eq_true rfl) ?_
      rintro _ _ ⟨rfl, rfl⟩
      refine ev_eq (lv' := [(3, .int (nI (k))), (2, .int (nI (rsTo S.rs set k))), (0, .ref 0), (1, .int (nI (set) ^^^ (-1)))]) (st' := [.int (nI (b01 (¬ set.testBit k = true)))]) (w' := saleW 0 S) rfl rfl rfl ?_
      refine ev_ifne_b (tgt := 27) dX3_reservesBut_15 (by decide) (fun h15 => ?_) (fun h15 => ?_)
      · skip
        refine ev_iinc_n (x := k) (v := 1) dX3_reservesBut_27 rfl (by decide) ?_
        refine ev_eq (lv' := [(3, .int (nI (k + 1))), (2, .int (nI (rsTo S.rs set k))), (0, .ref 0), (1, .int (nI (set) ^^^ (-1)))]) rfl rfl rfl ?_
        refine ev_b bX3_reservesBut_30_4 (lv' := [(3, .int (nI (k + 1))), (2, .int (nI (rsTo S.rs set k))), (0, .ref 0), (1, .int (nI (set) ^^^ (-1)))]) (st' := []) (w2 := saleW 0 S) rfl ?_
        rw [show nI (k + 1) = nI ((k + 1)) from congrArg nI (by omega)]
        rw [show nI (rsTo S.rs set k) = nI (rsTo S.rs set (k + 1)) from congrArg nI (by rw [rsTo_s]; first | (rw [if_neg h15]; rfl) | rw [if_pos (Decidable.of_not_not h15)])]
        exact ih4 (k + 1) (by omega) 
      · skip
        refine ev_b bX3_reservesBut_18_24 (lv' := [(3, .int (nI (k))), (2, .int (nI (rsTo S.rs set k))), (0, .ref 0), (1, .int (nI (set) ^^^ (-1)))]) (st' := [.int (nI (k)), .ref 7, .int (nI (rsTo S.rs set k))]) (w2 := saleW 0 S) rfl ?_
        refine ev_iald_n (f := S.rs) dX3_reservesBut_24 rfl (by omega) (by decide) ?_
        refine ev_iadd_n dX3_reservesBut_25 ?_
        refine ev_b bX3_reservesBut_26_27 (lv' := [(2, .int (nI ((rsTo S.rs set k) + (S.rs k)))), (3, .int (nI (k))), (0, .ref 0), (1, .int (nI (set) ^^^ (-1)))]) (st' := []) (w2 := saleW 0 S) rfl ?_
        refine ev_iinc_n (x := k) (v := 1) dX3_reservesBut_27 rfl (by decide) ?_
        refine ev_eq (lv' := [(3, .int (nI (k + 1))), (2, .int (nI ((rsTo S.rs set k) + (S.rs k)))), (0, .ref 0), (1, .int (nI (set) ^^^ (-1)))]) rfl rfl rfl ?_
        refine ev_b bX3_reservesBut_30_4 (lv' := [(3, .int (nI (k + 1))), (2, .int (nI ((rsTo S.rs set k) + (S.rs k)))), (0, .ref 0), (1, .int (nI (set) ^^^ (-1)))]) (st' := []) (w2 := saleW 0 S) rfl ?_
        rw [show nI (k + 1) = nI ((k + 1)) from congrArg nI (by omega)]
        rw [show nI ((rsTo S.rs set k) + (S.rs k)) = nI (rsTo S.rs set (k + 1)) from congrArg nI (by rw [rsTo_s]; first | (rw [if_neg h15]; rfl) | rw [if_pos (Decidable.of_not_not h15)])]
        exact ih4 (k + 1) (by omega) 
  exact L4 6 0 (by omega) 
theorem bX3_bidsOfGroup_0_4 {l : Launch} {E : XE} : Snd l E mX3_bidsOfGroup 0 4 (xs [x_push (.int (nI 0)), x_istore 2, x_push (.int (nI 0)), x_istore 3]) := Snd.cons (snd_iconst (v := nI 0) dX3_bidsOfGroup_0 (by decide)) (Snd.cons (snd_istore_n (i := 2) dX3_bidsOfGroup_1 rfl (by decide)) (Snd.cons (snd_iconst (v := nI 0) dX3_bidsOfGroup_2 (by decide)) (Snd.cons (snd_istore_n (i := 3) dX3_bidsOfGroup_3 rfl (by decide)) Snd.nil)))
theorem bX3_bidsOfGroup_4_6 {l : Launch} {E : XE} : Snd l E mX3_bidsOfGroup 4 6 (xs [x_iload 3, x_push (.int (nI 5))]) := Snd.cons (snd_iload_n (i := 3) dX3_bidsOfGroup_4 rfl) (Snd.cons (snd_iconst (v := nI 5) dX3_bidsOfGroup_5 (by decide)) Snd.nil)
theorem bX3_bidsOfGroup_33_34 {l : Launch} {E : XE} : Snd l E mX3_bidsOfGroup 33 34 (xs [x_iload 2]) := Snd.cons (snd_iload_n (i := 2) dX3_bidsOfGroup_33 rfl) Snd.nil
theorem bX3_bidsOfGroup_9_11 {l : Launch} {E : XE} : Snd l E mX3_bidsOfGroup 9 11 (xs [x_iload 1, x_iload 3]) := Snd.cons (snd_iload_n (i := 1) dX3_bidsOfGroup_9 rfl) (Snd.cons (snd_iload_n (i := 3) dX3_bidsOfGroup_10 rfl) Snd.nil)
theorem bX3_bidsOfGroup_14_15 {l : Launch} {E : XE} : Snd l E mX3_bidsOfGroup 14 15 (xs [x_push (.int (nI 1))]) := Snd.cons (snd_iconst (v := nI 1) dX3_bidsOfGroup_14 (by decide)) Snd.nil
theorem bX3_bidsOfGroup_30_4 {l : Launch} {E : XE} : Snd l E mX3_bidsOfGroup 30 4 (xs [x_id]) := Snd.cons (snd_goto (tgt := 4) dX3_bidsOfGroup_30 (by decide)) Snd.nil
theorem bX3_bidsOfGroup_18_24 {l : Launch} {E : XE} : Snd l E mX3_bidsOfGroup 18 24 (xs [x_iload 2, x_aload 0, x_get 4 3, x_iload 3]) := Snd.cons (snd_iload_n (i := 2) dX3_bidsOfGroup_18 rfl) (Snd.cons (snd_aload_n (i := 0) dX3_bidsOfGroup_19 rfl) (Snd.cons (snd_get (ci := 4) (k := 3) dX3_bidsOfGroup_20 rfl inX3 (by decide) tw_37) (Snd.cons (snd_iload_n (i := 3) dX3_bidsOfGroup_23 rfl) Snd.nil)))
theorem bX3_bidsOfGroup_26_27 {l : Launch} {E : XE} : Snd l E mX3_bidsOfGroup 26 27 (xs [x_istore 2]) := Snd.cons (snd_istore_n (i := 2) dX3_bidsOfGroup_26 rfl (by decide)) Snd.nil
set_option maxHeartbeats 4000000 in
set_option maxRecDepth 100000 in
theorem m_X3_bidsOfGroup {l : Launch} {E : XE} (S : SaleN) (group : Nat) (hg : group < 2147483648) : MetE l E mX3_bidsOfGroup (1) 0 0 [.ref 0, .int (nI (group))] (saleW 0 S) (fun r w' => r = some (.int (nI (bgTo S.ow group 5))) ∧ w' = saleW 0 S) := by
  refine MetE.of (by decide +kernel) (Nat.le_of_ble_eq_true rfl) ?_
  refine ev_eq (lv' := [(0, .ref 0), (1, .int (nI (group)))]) (st' := []) (w' := saleW 0 S) rfl rfl rfl ?_
  refine ev_b bX3_bidsOfGroup_0_4 (lv' := [(3, .int (nI (0))), (2, .int (nI (0))), (0, .ref 0), (1, .int (nI (group)))]) (st' := []) (w2 := saleW 0 S) rfl ?_
  have L4 : ∀ (j_ k : Nat), k + j_ = 5 → Ev l E mX3_bidsOfGroup (1) 0 0 (saleW 0 S) (fun r w' => r = some (.int (nI (bgTo S.ow group 5))) ∧ w' = saleW 0 S) 0 0 4 [(3, .int (nI (k))), (2, .int (nI (bgTo S.ow group k))), (0, .ref 0), (1, .int (nI (group)))] [] (saleW 0 S) := by
    intro j_
    induction j_ with
    | zero =>
      intro k hk4  
      replace hk4 : k = 5 := hk4
      subst hk4
      refine ev_b bX3_bidsOfGroup_4_6 (lv' := [(3, .int (nI (5))), (2, .int (nI (bgTo S.ow group 5))), (0, .ref 0), (1, .int (nI (group)))]) (st' := [.int (nI (5)), .int (nI (5))]) (w2 := saleW 0 S) rfl ?_
      refine ev_icmp_ge_n (tgt := 33) (by decide) (by decide) dX3_bidsOfGroup_6 (by decide) (fun h6 => ?_) (fun h6 => (by exfalso; omega))
      refine ev_b bX3_bidsOfGroup_33_34 (lv' := [(3, .int (nI (5))), (2, .int (nI (bgTo S.ow group 5))), (0, .ref 0), (1, .int (nI (group)))]) (st' := [.int (nI (bgTo S.ow group 5))]) (w2 := saleW 0 S) rfl ?_
      exact ev_iret dX3_bidsOfGroup_34 rfl (Nat.le_of_ble_eq_true rfl) (Nat.le_refl _) (Nat.le_refl _) ⟨rfl, rfl⟩
    | succ j_ ih4 =>
      intro k hk4  
      have hlt4 : k < 5 := by omega
      refine ev_b bX3_bidsOfGroup_4_6 (lv' := [(3, .int (nI (k))), (2, .int (nI (bgTo S.ow group k))), (0, .ref 0), (1, .int (nI (group)))]) (st' := [.int (nI (5)), .int (nI (k))]) (w2 := saleW 0 S) rfl ?_
      refine ev_icmp_ge_n (tgt := 33) (by omega) (by decide) dX3_bidsOfGroup_6 (by decide) (fun h6 => (by exfalso; omega)) (fun h6 => ?_)
      refine ev_b bX3_bidsOfGroup_9_11 (lv' := [(3, .int (nI (k))), (2, .int (nI (bgTo S.ow group k))), (0, .ref 0), (1, .int (nI (group)))]) (st' := [.int (nI (k)), .int (nI (group))]) (w2 := saleW 0 S) rfl ?_
      refine ev_callSN (Yc := mX6_bitAt) [] dX3_bidsOfGroup_11 tn_509 kX6_bitAt (m_X6_bitAt group k hg (by omega)) rfl (st := []) rfl (by decide) rfl (by decide) (Nat.le_of_ble_eq_true rfl) (Nat.le_refl _) (Nat.le_refl _) (fun r w' h => by obtain ⟨-, rfl⟩ := h; exact Nat.le_of_ble_eq_true rfl) ?_
      rintro _ _ ⟨rfl, rfl⟩
      refine ev_eq (lv' := [(3, .int (nI (k))), (2, .int (nI (bgTo S.ow group k))), (0, .ref 0), (1, .int (nI (group)))]) (st' := [.int (nI (b01 (group.testBit k = true)))]) (w' := saleW 0 S) rfl rfl rfl ?_
      refine ev_b bX3_bidsOfGroup_14_15 (lv' := [(3, .int (nI (k))), (2, .int (nI (bgTo S.ow group k))), (0, .ref 0), (1, .int (nI (group)))]) (st' := [.int (nI (1)), .int (nI (b01 (group.testBit k = true)))]) (w2 := saleW 0 S) rfl ?_
      refine ev_icmpne_b1 (tgt := 27) dX3_bidsOfGroup_15 (by decide) (fun h15 => ?_) (fun h15 => ?_)
      · skip
        refine ev_iinc_n (x := k) (v := 1) dX3_bidsOfGroup_27 rfl (by decide) ?_
        refine ev_eq (lv' := [(3, .int (nI (k + 1))), (2, .int (nI (bgTo S.ow group k))), (0, .ref 0), (1, .int (nI (group)))]) rfl rfl rfl ?_
        refine ev_b bX3_bidsOfGroup_30_4 (lv' := [(3, .int (nI (k + 1))), (2, .int (nI (bgTo S.ow group k))), (0, .ref 0), (1, .int (nI (group)))]) (st' := []) (w2 := saleW 0 S) rfl ?_
        rw [show nI (k + 1) = nI ((k + 1)) from congrArg nI (by omega)]
        rw [show nI (bgTo S.ow group k) = nI (bgTo S.ow group (k + 1)) from congrArg nI (by rw [bgTo_s]; first | rw [if_pos h15] | rw [if_neg h15])]
        exact ih4 (k + 1) (by omega) 
      · skip
        refine ev_b bX3_bidsOfGroup_18_24 (lv' := [(3, .int (nI (k))), (2, .int (nI (bgTo S.ow group k))), (0, .ref 0), (1, .int (nI (group)))]) (st' := [.int (nI (k)), .ref 4, .int (nI (bgTo S.ow group k))]) (w2 := saleW 0 S) rfl ?_
        refine ev_iald_n (f := S.ow) dX3_bidsOfGroup_24 rfl (by omega) (by decide) ?_
        refine ev_ior_n dX3_bidsOfGroup_25 ?_
        refine ev_b bX3_bidsOfGroup_26_27 (lv' := [(2, .int (nI ((bgTo S.ow group k) ||| (S.ow k)))), (3, .int (nI (k))), (0, .ref 0), (1, .int (nI (group)))]) (st' := []) (w2 := saleW 0 S) rfl ?_
        refine ev_iinc_n (x := k) (v := 1) dX3_bidsOfGroup_27 rfl (by decide) ?_
        refine ev_eq (lv' := [(3, .int (nI (k + 1))), (2, .int (nI ((bgTo S.ow group k) ||| (S.ow k)))), (0, .ref 0), (1, .int (nI (group)))]) rfl rfl rfl ?_
        refine ev_b bX3_bidsOfGroup_30_4 (lv' := [(3, .int (nI (k + 1))), (2, .int (nI ((bgTo S.ow group k) ||| (S.ow k)))), (0, .ref 0), (1, .int (nI (group)))]) (st' := []) (w2 := saleW 0 S) rfl ?_
        rw [show nI (k + 1) = nI ((k + 1)) from congrArg nI (by omega)]
        rw [show nI ((bgTo S.ow group k) ||| (S.ow k)) = nI (bgTo S.ow group (k + 1)) from congrArg nI (by rw [bgTo_s]; first | rw [if_pos h15] | rw [if_neg h15])]
        exact ih4 (k + 1) (by omega) 
  exact L4 5 0 (by omega) 
theorem bX3_mayWin_0_1 {l : Launch} {E : XE} : Snd l E mX3_mayWin 0 1 (xs [x_iload 3]) := Snd.cons (snd_iload_n (i := 3) dX3_mayWin_0 rfl) Snd.nil
theorem bX3_mayWin_4_7 {l : Launch} {E : XE} : Snd l E mX3_mayWin 4 7 (xs [x_istore 4, x_iload 1]) := Snd.cons (snd_istore dX3_mayWin_4 (by decide)) (Snd.cons (snd_iload_n (i := 1) dX3_mayWin_6 rfl) Snd.nil)
theorem bX3_mayWin_40_43 {l : Launch} {E : XE} : Snd l E mX3_mayWin 40 43 (xs [x_iload 4, x_push (.int (nI 1))]) := Snd.cons (snd_iload dX3_mayWin_40) (Snd.cons (snd_iconst (v := nI 1) dX3_mayWin_42 (by decide)) Snd.nil)
theorem bX3_mayWin_50_51 {l : Launch} {E : XE} : Snd l E mX3_mayWin 50 51 (xs [x_push (.int (nI 0))]) := Snd.cons (snd_iconst (v := nI 0) dX3_mayWin_50 (by decide)) Snd.nil
theorem bX3_mayWin_46_51 {l : Launch} {E : XE} : Snd l E mX3_mayWin 46 51 (xs [x_push (.int (nI 1)), x_id]) := Snd.cons (snd_iconst (v := nI 1) dX3_mayWin_46 (by decide)) (Snd.cons (snd_goto (tgt := 51) dX3_mayWin_47 (by decide)) Snd.nil)
theorem bX3_mayWin_52_55 {l : Launch} {E : XE} : Snd l E mX3_mayWin 52 55 (xs [x_iload 4, x_iload 2]) := Snd.cons (snd_iload dX3_mayWin_52) (Snd.cons (snd_iload_n (i := 2) dX3_mayWin_54 rfl) Snd.nil)
theorem bX3_mayWin_62_63 {l : Launch} {E : XE} : Snd l E mX3_mayWin 62 63 (xs [x_push (.int (nI 0))]) := Snd.cons (snd_iconst (v := nI 0) dX3_mayWin_62 (by decide)) Snd.nil
theorem bX3_mayWin_58_63 {l : Launch} {E : XE} : Snd l E mX3_mayWin 58 63 (xs [x_push (.int (nI 1)), x_id]) := Snd.cons (snd_iconst (v := nI 1) dX3_mayWin_58 (by decide)) (Snd.cons (snd_goto (tgt := 63) dX3_mayWin_59 (by decide)) Snd.nil)
theorem bX3_mayWin_64_66 {l : Launch} {E : XE} : Snd l E mX3_mayWin 64 66 (xs [x_aload 0, x_iload 3]) := Snd.cons (snd_aload_n (i := 0) dX3_mayWin_64 rfl) (Snd.cons (snd_iload_n (i := 3) dX3_mayWin_65 rfl) Snd.nil)
theorem bX3_mayWin_69_72 {l : Launch} {E : XE} : Snd l E mX3_mayWin 69 72 (xs [x_push (.int (nI 10)), x_iload 2]) := Snd.cons (snd_bipush (v := nI 10) dX3_mayWin_69 (by decide)) (Snd.cons (snd_iload_n (i := 2) dX3_mayWin_71 rfl) Snd.nil)
theorem bX3_mayWin_80_81 {l : Launch} {E : XE} : Snd l E mX3_mayWin 80 81 (xs [x_push (.int (nI 0))]) := Snd.cons (snd_iconst (v := nI 0) dX3_mayWin_80 (by decide)) Snd.nil
theorem bX3_mayWin_76_81 {l : Launch} {E : XE} : Snd l E mX3_mayWin 76 81 (xs [x_push (.int (nI 1)), x_id]) := Snd.cons (snd_iconst (v := nI 1) dX3_mayWin_76 (by decide)) (Snd.cons (snd_goto (tgt := 81) dX3_mayWin_77 (by decide)) Snd.nil)
theorem bX3_mayWin_82_85 {l : Launch} {E : XE} : Snd l E mX3_mayWin 82 85 (xs [x_iload 4, x_push (.int (nI 1))]) := Snd.cons (snd_iload dX3_mayWin_82) (Snd.cons (snd_iconst (v := nI 1) dX3_mayWin_84 (by decide)) Snd.nil)
theorem bX3_mayWin_104_105 {l : Launch} {E : XE} : Snd l E mX3_mayWin 104 105 (xs [x_push (.int (nI 0))]) := Snd.cons (snd_iconst (v := nI 0) dX3_mayWin_104 (by decide)) Snd.nil
theorem bX3_mayWin_88_90 {l : Launch} {E : XE} : Snd l E mX3_mayWin 88 90 (xs [x_aload 0, x_iload 3]) := Snd.cons (snd_aload_n (i := 0) dX3_mayWin_88 rfl) (Snd.cons (snd_iload_n (i := 3) dX3_mayWin_89 rfl) Snd.nil)
theorem bX3_mayWin_96_97 {l : Launch} {E : XE} : Snd l E mX3_mayWin 96 97 (xs [x_iload 2]) := Snd.cons (snd_iload_n (i := 2) dX3_mayWin_96 rfl) Snd.nil
theorem bX3_mayWin_100_105 {l : Launch} {E : XE} : Snd l E mX3_mayWin 100 105 (xs [x_push (.int (nI 1)), x_id]) := Snd.cons (snd_iconst (v := nI 1) dX3_mayWin_100 (by decide)) (Snd.cons (snd_goto (tgt := 105) dX3_mayWin_101 (by decide)) Snd.nil)
theorem bX3_mayWin_106_109 {l : Launch} {E : XE} : Snd l E mX3_mayWin 106 109 (xs [x_iload 4, x_iload 2]) := Snd.cons (snd_iload dX3_mayWin_106) (Snd.cons (snd_iload_n (i := 2) dX3_mayWin_108 rfl) Snd.nil)
theorem bX3_mayWin_122_123 {l : Launch} {E : XE} : Snd l E mX3_mayWin 122 123 (xs [x_push (.int (nI 0))]) := Snd.cons (snd_iconst (v := nI 0) dX3_mayWin_122 (by decide)) Snd.nil
theorem bX3_mayWin_112_115 {l : Launch} {E : XE} : Snd l E mX3_mayWin 112 115 (xs [x_iload 4, x_push (.int (nI 1))]) := Snd.cons (snd_iload dX3_mayWin_112) (Snd.cons (snd_iconst (v := nI 1) dX3_mayWin_114 (by decide)) Snd.nil)
theorem bX3_mayWin_118_123 {l : Launch} {E : XE} : Snd l E mX3_mayWin 118 123 (xs [x_push (.int (nI 1)), x_id]) := Snd.cons (snd_iconst (v := nI 1) dX3_mayWin_118 (by decide)) (Snd.cons (snd_goto (tgt := 123) dX3_mayWin_119 (by decide)) Snd.nil)
theorem bX3_mayWin_124_125 {l : Launch} {E : XE} : Snd l E mX3_mayWin 124 125 (xs [x_push (.int (nI 1))]) := Snd.cons (snd_iconst (v := nI 1) dX3_mayWin_124 (by decide)) Snd.nil
set_option maxHeartbeats 4000000 in
set_option maxRecDepth 100000 in
theorem m_X3_mayWin {l : Launch} {E : XE} (S : SaleN) (kind fig own : Nat) (hS : SaleOK S) (ho : own < 1024) (hk : kind < 6) (hf : fig ≤ 9) : MetE l E mX3_mayWin (1) 0 0 [.ref 0, .int (nI (kind)), .int (nI (fig)), .int (nI (own))] (saleW 0 S) (fun r w' => r = some (.int (nI (b01 (mayP kind fig (pop own) (prTo S.pr own S.ca) (pop (itTo S.st own S.ca)))))) ∧ w' = saleW 0 S) := by
  refine MetE.of (by decide +kernel) (Nat.le_of_ble_eq_true rfl) ?_
  have hca := hS.1
  have hil : itTo S.st own S.ca < 64 := itTo_lt S.ca (Nat.le_refl _) (fun k hk => (hS.2.2.1 k hk).2.2.1)
  have hpl : prTo S.pr own S.ca ≤ 99 * S.ca := prTo_le S.ca (Nat.le_refl _) (fun k hk => (hS.2.2.1 k hk).2.2.2)
  have hpo := pop_le own
  have hpi := pop_le (itTo S.st own S.ca)
  refine ev_eq (lv' := [(0, .ref 0), (1, .int (nI (kind))), (2, .int (nI (fig))), (3, .int (nI (own)))]) (st' := []) (w' := saleW 0 S) rfl rfl rfl ?_
  refine ev_b bX3_mayWin_0_1 (lv' := [(0, .ref 0), (1, .int (nI (kind))), (2, .int (nI (fig))), (3, .int (nI (own)))]) (st' := [.int (nI (own))]) (w2 := saleW 0 S) rfl ?_
  refine ev_callS (Yc := mJ6_bitCount_0f7a4) [] dX3_mayWin_1 tw_525 kJ6_bitCount_0f7a4 (m_bitCount own ho) rfl (st := []) rfl (by decide) rfl (by decide) (Nat.le_of_ble_eq_true rfl) (Nat.le_refl _) (Nat.le_refl _) (fun r w' h => by obtain ⟨-, rfl⟩ := h; exact Nat.le_of_ble_eq_true rfl) ?_
  rintro _ _ ⟨rfl, rfl⟩
  refine ev_eq (lv' := [(0, .ref 0), (1, .int (nI (kind))), (2, .int (nI (fig))), (3, .int (nI (own)))]) (st' := [.int (nI (pop own))]) (w' := saleW 0 S) rfl rfl rfl ?_
  refine ev_b bX3_mayWin_4_7 (lv' := [(4, .int (nI (pop own))), (0, .ref 0), (1, .int (nI (kind))), (2, .int (nI (fig))), (3, .int (nI (own)))]) (st' := [.int (nI (kind))]) (w2 := saleW 0 S) rfl ?_
  rcases (show kind = 1 ∨ kind = 2 ∨ kind = 3 ∨ kind = 4 ∨ kind = 5 ∨ (kind < 1 ∨ 5 < kind) from by omega) with h7 | h7 | h7 | h7 | h7 | h7
  · skip
    refine ev_tableIn (off := 33) (tgt := 40) dX3_mayWin_7 (by rw [nI_toInt (by omega)]; omega) (by rw [nI_toInt (by omega)]; omega) (by rw [h7]; rfl) (by decide) ?_
    refine ev_b bX3_mayWin_40_43 (lv' := [(4, .int (nI (pop own))), (0, .ref 0), (1, .int (nI (kind))), (2, .int (nI (fig))), (3, .int (nI (own)))]) (st' := [.int (nI (1)), .int (nI (pop own))]) (w2 := saleW 0 S) rfl ?_
    refine ev_icmp_gt_n (tgt := 50) (by omega) (by decide) dX3_mayWin_43 (by decide) (fun h43 => ?_) (fun h43 => ?_)
    · skip
      refine ev_b bX3_mayWin_50_51 (lv' := [(4, .int (nI (pop own))), (0, .ref 0), (1, .int (nI (kind))), (2, .int (nI (fig))), (3, .int (nI (own)))]) (st' := [.int (nI (0))]) (w2 := saleW 0 S) rfl ?_
      exact ev_zret dX3_mayWin_51 rfl rfl (Nat.le_of_ble_eq_true rfl) (Nat.le_refl _) (Nat.le_refl _) ⟨(congrArg (fun t => some (Value.int (nI t))) (b01_f (by unfold mayP; omega)).symm), rfl⟩
    · skip
      refine ev_b bX3_mayWin_46_51 (lv' := [(4, .int (nI (pop own))), (0, .ref 0), (1, .int (nI (kind))), (2, .int (nI (fig))), (3, .int (nI (own)))]) (st' := [.int (nI (1))]) (w2 := saleW 0 S) rfl ?_
      exact ev_zret dX3_mayWin_51 rfl rfl (Nat.le_of_ble_eq_true rfl) (Nat.le_refl _) (Nat.le_refl _) ⟨(congrArg (fun t => some (Value.int (nI t))) (b01_t (by unfold mayP; omega)).symm), rfl⟩
  · skip
    refine ev_tableIn (off := 45) (tgt := 52) dX3_mayWin_7 (by rw [nI_toInt (by omega)]; omega) (by rw [nI_toInt (by omega)]; omega) (by rw [h7]; rfl) (by decide) ?_
    refine ev_b bX3_mayWin_52_55 (lv' := [(4, .int (nI (pop own))), (0, .ref 0), (1, .int (nI (kind))), (2, .int (nI (fig))), (3, .int (nI (own)))]) (st' := [.int (nI (fig)), .int (nI (pop own))]) (w2 := saleW 0 S) rfl ?_
    refine ev_icmp_gt_n (tgt := 62) (by omega) (by omega) dX3_mayWin_55 (by decide) (fun h55 => ?_) (fun h55 => ?_)
    · skip
      refine ev_b bX3_mayWin_62_63 (lv' := [(4, .int (nI (pop own))), (0, .ref 0), (1, .int (nI (kind))), (2, .int (nI (fig))), (3, .int (nI (own)))]) (st' := [.int (nI (0))]) (w2 := saleW 0 S) rfl ?_
      exact ev_zret dX3_mayWin_63 rfl rfl (Nat.le_of_ble_eq_true rfl) (Nat.le_refl _) (Nat.le_refl _) ⟨(congrArg (fun t => some (Value.int (nI t))) (b01_f (by unfold mayP; omega)).symm), rfl⟩
    · skip
      refine ev_b bX3_mayWin_58_63 (lv' := [(4, .int (nI (pop own))), (0, .ref 0), (1, .int (nI (kind))), (2, .int (nI (fig))), (3, .int (nI (own)))]) (st' := [.int (nI (1))]) (w2 := saleW 0 S) rfl ?_
      exact ev_zret dX3_mayWin_63 rfl rfl (Nat.le_of_ble_eq_true rfl) (Nat.le_refl _) (Nat.le_refl _) ⟨(congrArg (fun t => some (Value.int (nI t))) (b01_t (by unfold mayP; omega)).symm), rfl⟩
  · skip
    refine ev_tableIn (off := 57) (tgt := 64) dX3_mayWin_7 (by rw [nI_toInt (by omega)]; omega) (by rw [nI_toInt (by omega)]; omega) (by rw [h7]; rfl) (by decide) ?_
    refine ev_b bX3_mayWin_64_66 (lv' := [(4, .int (nI (pop own))), (0, .ref 0), (1, .int (nI (kind))), (2, .int (nI (fig))), (3, .int (nI (own)))]) (st' := [.int (nI (own)), .ref 0]) (w2 := saleW 0 S) rfl ?_
    refine ev_callV (Yc := mX3_pricesOf) [0, 1, 2, 3, 4, 5, 6, 7] dX3_mayWin_66 tw_531 kX3_pricesOf (m_X3_pricesOf S own hS (by omega)) rfl (st := []) rfl rfl rfl (by decide) rfl (by decide) (Nat.le_of_ble_eq_true rfl) (Nat.le_refl _) (Nat.le_refl _) (fun r w' h => by obtain ⟨-, rfl⟩ := h; exact Nat.le_of_ble_eq_true rfl) ?_
    rintro _ _ ⟨rfl, rfl⟩
    refine ev_eq (lv' := [(4, .int (nI (pop own))), (0, .ref 0), (1, .int (nI (kind))), (2, .int (nI (fig))), (3, .int (nI (own)))]) (st' := [.int (nI (prTo S.pr own S.ca))]) (w' := saleW 0 S) rfl rfl rfl ?_
    refine ev_b bX3_mayWin_69_72 (lv' := [(4, .int (nI (pop own))), (0, .ref 0), (1, .int (nI (kind))), (2, .int (nI (fig))), (3, .int (nI (own)))]) (st' := [.int (nI (fig)), .int (nI (10)), .int (nI (prTo S.pr own S.ca))]) (w2 := saleW 0 S) rfl ?_
    refine ev_imul_n dX3_mayWin_72 ?_
    refine ev_icmp_gt_n (tgt := 80) (by omega) (by omega) dX3_mayWin_73 (by decide) (fun h73 => ?_) (fun h73 => ?_)
    · skip
      refine ev_b bX3_mayWin_80_81 (lv' := [(4, .int (nI (pop own))), (0, .ref 0), (1, .int (nI (kind))), (2, .int (nI (fig))), (3, .int (nI (own)))]) (st' := [.int (nI (0))]) (w2 := saleW 0 S) rfl ?_
      exact ev_zret dX3_mayWin_81 rfl rfl (Nat.le_of_ble_eq_true rfl) (Nat.le_refl _) (Nat.le_refl _) ⟨(congrArg (fun t => some (Value.int (nI t))) (b01_f (by unfold mayP; omega)).symm), rfl⟩
    · skip
      refine ev_b bX3_mayWin_76_81 (lv' := [(4, .int (nI (pop own))), (0, .ref 0), (1, .int (nI (kind))), (2, .int (nI (fig))), (3, .int (nI (own)))]) (st' := [.int (nI (1))]) (w2 := saleW 0 S) rfl ?_
      exact ev_zret dX3_mayWin_81 rfl rfl (Nat.le_of_ble_eq_true rfl) (Nat.le_refl _) (Nat.le_refl _) ⟨(congrArg (fun t => some (Value.int (nI t))) (b01_t (by unfold mayP; omega)).symm), rfl⟩
  · skip
    refine ev_tableIn (off := 75) (tgt := 82) dX3_mayWin_7 (by rw [nI_toInt (by omega)]; omega) (by rw [nI_toInt (by omega)]; omega) (by rw [h7]; rfl) (by decide) ?_
    refine ev_b bX3_mayWin_82_85 (lv' := [(4, .int (nI (pop own))), (0, .ref 0), (1, .int (nI (kind))), (2, .int (nI (fig))), (3, .int (nI (own)))]) (st' := [.int (nI (1)), .int (nI (pop own))]) (w2 := saleW 0 S) rfl ?_
    refine ev_icmp_gt_n (tgt := 104) (by omega) (by decide) dX3_mayWin_85 (by decide) (fun h85 => ?_) (fun h85 => ?_)
    · skip
      refine ev_b bX3_mayWin_104_105 (lv' := [(4, .int (nI (pop own))), (0, .ref 0), (1, .int (nI (kind))), (2, .int (nI (fig))), (3, .int (nI (own)))]) (st' := [.int (nI (0))]) (w2 := saleW 0 S) rfl ?_
      exact ev_zret dX3_mayWin_105 rfl rfl (Nat.le_of_ble_eq_true rfl) (Nat.le_refl _) (Nat.le_refl _) ⟨(congrArg (fun t => some (Value.int (nI t))) (b01_f (by unfold mayP; omega)).symm), rfl⟩
    · skip
      refine ev_b bX3_mayWin_88_90 (lv' := [(4, .int (nI (pop own))), (0, .ref 0), (1, .int (nI (kind))), (2, .int (nI (fig))), (3, .int (nI (own)))]) (st' := [.int (nI (own)), .ref 0]) (w2 := saleW 0 S) rfl ?_
      refine ev_callV (Yc := mX3_itemsOf) [0, 1, 2, 3, 4, 5, 6, 7] dX3_mayWin_90 tw_535 kX3_itemsOf (m_X3_itemsOf S own hS (by omega)) rfl (st := []) rfl rfl rfl (by decide) rfl (by decide) (Nat.le_of_ble_eq_true rfl) (Nat.le_refl _) (Nat.le_refl _) (fun r w' h => by obtain ⟨-, rfl⟩ := h; exact Nat.le_of_ble_eq_true rfl) ?_
      rintro _ _ ⟨rfl, rfl⟩
      refine ev_eq (lv' := [(4, .int (nI (pop own))), (0, .ref 0), (1, .int (nI (kind))), (2, .int (nI (fig))), (3, .int (nI (own)))]) (st' := [.int (nI (itTo S.st own S.ca))]) (w' := saleW 0 S) rfl rfl rfl ?_
      refine ev_callS (Yc := mJ6_bitCount_0f7a4) [] dX3_mayWin_93 tw_525 kJ6_bitCount_0f7a4 (m_bitCount _ (by omega)) rfl (st := []) rfl (by decide) rfl (by decide) (Nat.le_of_ble_eq_true rfl) (Nat.le_refl _) (Nat.le_refl _) (fun r w' h => by obtain ⟨-, rfl⟩ := h; exact Nat.le_of_ble_eq_true rfl) ?_
      rintro _ _ ⟨rfl, rfl⟩
      refine ev_eq (lv' := [(4, .int (nI (pop own))), (0, .ref 0), (1, .int (nI (kind))), (2, .int (nI (fig))), (3, .int (nI (own)))]) (st' := [.int (nI (pop (itTo S.st own S.ca)))]) (w' := saleW 0 S) rfl rfl rfl ?_
      refine ev_b bX3_mayWin_96_97 (lv' := [(4, .int (nI (pop own))), (0, .ref 0), (1, .int (nI (kind))), (2, .int (nI (fig))), (3, .int (nI (own)))]) (st' := [.int (nI (fig)), .int (nI (pop (itTo S.st own S.ca)))]) (w2 := saleW 0 S) rfl ?_
      refine ev_icmp_gt_n (tgt := 104) (by omega) (by omega) dX3_mayWin_97 (by decide) (fun h97 => ?_) (fun h97 => ?_)
      · skip
        refine ev_b bX3_mayWin_104_105 (lv' := [(4, .int (nI (pop own))), (0, .ref 0), (1, .int (nI (kind))), (2, .int (nI (fig))), (3, .int (nI (own)))]) (st' := [.int (nI (0))]) (w2 := saleW 0 S) rfl ?_
        exact ev_zret dX3_mayWin_105 rfl rfl (Nat.le_of_ble_eq_true rfl) (Nat.le_refl _) (Nat.le_refl _) ⟨(congrArg (fun t => some (Value.int (nI t))) (b01_f (by unfold mayP; omega)).symm), rfl⟩
      · skip
        refine ev_b bX3_mayWin_100_105 (lv' := [(4, .int (nI (pop own))), (0, .ref 0), (1, .int (nI (kind))), (2, .int (nI (fig))), (3, .int (nI (own)))]) (st' := [.int (nI (1))]) (w2 := saleW 0 S) rfl ?_
        exact ev_zret dX3_mayWin_105 rfl rfl (Nat.le_of_ble_eq_true rfl) (Nat.le_refl _) (Nat.le_refl _) ⟨(congrArg (fun t => some (Value.int (nI t))) (b01_t (by unfold mayP; omega)).symm), rfl⟩
  · skip
    refine ev_tableIn (off := 99) (tgt := 106) dX3_mayWin_7 (by rw [nI_toInt (by omega)]; omega) (by rw [nI_toInt (by omega)]; omega) (by rw [h7]; rfl) (by decide) ?_
    refine ev_b bX3_mayWin_106_109 (lv' := [(4, .int (nI (pop own))), (0, .ref 0), (1, .int (nI (kind))), (2, .int (nI (fig))), (3, .int (nI (own)))]) (st' := [.int (nI (fig)), .int (nI (pop own))]) (w2 := saleW 0 S) rfl ?_
    refine ev_icmp_gt_n (tgt := 122) (by omega) (by omega) dX3_mayWin_109 (by decide) (fun h109 => ?_) (fun h109 => ?_)
    · skip
      refine ev_b bX3_mayWin_122_123 (lv' := [(4, .int (nI (pop own))), (0, .ref 0), (1, .int (nI (kind))), (2, .int (nI (fig))), (3, .int (nI (own)))]) (st' := [.int (nI (0))]) (w2 := saleW 0 S) rfl ?_
      exact ev_zret dX3_mayWin_123 rfl rfl (Nat.le_of_ble_eq_true rfl) (Nat.le_refl _) (Nat.le_refl _) ⟨(congrArg (fun t => some (Value.int (nI t))) (b01_f (by unfold mayP; omega)).symm), rfl⟩
    · skip
      refine ev_b bX3_mayWin_112_115 (lv' := [(4, .int (nI (pop own))), (0, .ref 0), (1, .int (nI (kind))), (2, .int (nI (fig))), (3, .int (nI (own)))]) (st' := [.int (nI (1)), .int (nI (pop own))]) (w2 := saleW 0 S) rfl ?_
      refine ev_icmp_eq_n (tgt := 122) (by omega) (by decide) dX3_mayWin_115 (by decide) (fun h115 => ?_) (fun h115 => ?_)
      · skip
        refine ev_b bX3_mayWin_122_123 (lv' := [(4, .int (nI (pop own))), (0, .ref 0), (1, .int (nI (kind))), (2, .int (nI (fig))), (3, .int (nI (own)))]) (st' := [.int (nI (0))]) (w2 := saleW 0 S) rfl ?_
        exact ev_zret dX3_mayWin_123 rfl rfl (Nat.le_of_ble_eq_true rfl) (Nat.le_refl _) (Nat.le_refl _) ⟨(congrArg (fun t => some (Value.int (nI t))) (b01_f (by unfold mayP; omega)).symm), rfl⟩
      · skip
        refine ev_b bX3_mayWin_118_123 (lv' := [(4, .int (nI (pop own))), (0, .ref 0), (1, .int (nI (kind))), (2, .int (nI (fig))), (3, .int (nI (own)))]) (st' := [.int (nI (1))]) (w2 := saleW 0 S) rfl ?_
        exact ev_zret dX3_mayWin_123 rfl rfl (Nat.le_of_ble_eq_true rfl) (Nat.le_refl _) (Nat.le_refl _) ⟨(congrArg (fun t => some (Value.int (nI t))) (b01_t (by unfold mayP; omega)).symm), rfl⟩
  · skip
    refine ev_tableOut (tgt := 124) dX3_mayWin_7 (by rw [nI_toInt (by omega)]; omega) (by decide) ?_
    refine ev_b bX3_mayWin_124_125 (lv' := [(4, .int (nI (pop own))), (0, .ref 0), (1, .int (nI (kind))), (2, .int (nI (fig))), (3, .int (nI (own)))]) (st' := [.int (nI (1))]) (w2 := saleW 0 S) rfl ?_
    exact ev_zret dX3_mayWin_125 rfl rfl (Nat.le_of_ble_eq_true rfl) (Nat.le_refl _) (Nat.le_refl _) ⟨(congrArg (fun t => some (Value.int (nI t))) (b01_t (by unfold mayP; omega)).symm), rfl⟩
theorem bX3_allows_0_2 {l : Launch} {E : XE} : Snd l E mX3_allows 0 2 (xs [x_push (.int (nI 0)), x_istore 2]) := Snd.cons (snd_iconst (v := nI 0) dX3_allows_0 (by decide)) (Snd.cons (snd_istore_n (i := 2) dX3_allows_1 rfl (by decide)) Snd.nil)
theorem bX3_allows_2_4 {l : Launch} {E : XE} : Snd l E mX3_allows 2 4 (xs [x_iload 2, x_push (.int (nI 5))]) := Snd.cons (snd_iload_n (i := 2) dX3_allows_2 rfl) (Snd.cons (snd_iconst (v := nI 5) dX3_allows_3 (by decide)) Snd.nil)
theorem bX3_allows_42_43 {l : Launch} {E : XE} : Snd l E mX3_allows 42 43 (xs [x_push (.int (nI 1))]) := Snd.cons (snd_iconst (v := nI 1) dX3_allows_42 (by decide)) Snd.nil
theorem bX3_allows_7_13 {l : Launch} {E : XE} : Snd l E mX3_allows 7 13 (xs [x_aload 0, x_aload 0, x_get 4 4, x_iload 2]) := Snd.cons (snd_aload_n (i := 0) dX3_allows_7 rfl) (Snd.cons (snd_aload_n (i := 0) dX3_allows_8 rfl) (Snd.cons (snd_get (ci := 4) (k := 4) dX3_allows_9 rfl inX3 (by decide) tw_38) (Snd.cons (snd_iload_n (i := 2) dX3_allows_12 rfl) Snd.nil)))
theorem bX3_allows_14_19 {l : Launch} {E : XE} : Snd l E mX3_allows 14 19 (xs [x_aload 0, x_get 4 5, x_iload 2]) := Snd.cons (snd_aload_n (i := 0) dX3_allows_14 rfl) (Snd.cons (snd_get (ci := 4) (k := 5) dX3_allows_15 rfl inX3 (by decide) tw_39) (Snd.cons (snd_iload_n (i := 2) dX3_allows_18 rfl) Snd.nil))
theorem bX3_allows_20_26 {l : Launch} {E : XE} : Snd l E mX3_allows 20 26 (xs [x_iload 1, x_aload 0, x_get 4 3, x_iload 2]) := Snd.cons (snd_iload_n (i := 1) dX3_allows_20 rfl) (Snd.cons (snd_aload_n (i := 0) dX3_allows_21 rfl) (Snd.cons (snd_get (ci := 4) (k := 3) dX3_allows_22 rfl inX3 (by decide) tw_37) (Snd.cons (snd_iload_n (i := 2) dX3_allows_25 rfl) Snd.nil)))
theorem bX3_allows_39_2 {l : Launch} {E : XE} : Snd l E mX3_allows 39 2 (xs [x_id]) := Snd.cons (snd_goto (tgt := 2) dX3_allows_39 (by decide)) Snd.nil
theorem bX3_allows_34_35 {l : Launch} {E : XE} : Snd l E mX3_allows 34 35 (xs [x_push (.int (nI 0))]) := Snd.cons (snd_iconst (v := nI 0) dX3_allows_34 (by decide)) Snd.nil
set_option maxHeartbeats 4000000 in
set_option maxRecDepth 100000 in
theorem m_X3_allows {l : Launch} {E : XE} (S : SaleN) (bits : Nat) (hS : SaleOK S) (hb : bits < 1024) : MetE l E mX3_allows (2) 0 0 [.ref 0, .int (nI (bits))] (saleW 0 S) (fun r w' => r = some (.int (nI (b01 (allS S bits)))) ∧ w' = saleW 0 S) := by
  refine MetE.of (by decide +kernel) (Nat.le_of_ble_eq_true rfl) ?_
  have hca := hS.1
  refine ev_eq (lv' := [(0, .ref 0), (1, .int (nI (bits)))]) (st' := []) (w' := saleW 0 S) rfl rfl rfl ?_
  refine ev_b bX3_allows_0_2 (lv' := [(2, .int (nI (0))), (0, .ref 0), (1, .int (nI (bits)))]) (st' := []) (w2 := saleW 0 S) rfl ?_
  have L2 : ∀ (j_ k : Nat), k + j_ = 5 → (∀ b, b < k → mayS S bits b) → Ev l E mX3_allows (2) 0 0 (saleW 0 S) (fun r w' => r = some (.int (nI (b01 (allS S bits)))) ∧ w' = saleW 0 S) 0 0 2 [(2, .int (nI (k))), (0, .ref 0), (1, .int (nI (bits)))] [] (saleW 0 S) := by
    intro j_
    induction j_ with
    | zero =>
      intro k hk2  hinv2
      replace hk2 : k = 5 := hk2
      subst hk2
      skip
      have hkb := fun (h : 5 < 5) => hS.2.2.2.1 5 h
      refine ev_b bX3_allows_2_4 (lv' := [(2, .int (nI (5))), (0, .ref 0), (1, .int (nI (bits)))]) (st' := [.int (nI (5)), .int (nI (5))]) (w2 := saleW 0 S) rfl ?_
      refine ev_icmp_ge_n (tgt := 42) (by decide) (by decide) dX3_allows_4 (by decide) (fun h4 => ?_) (fun h4 => (by exfalso; omega))
      refine ev_b bX3_allows_42_43 (lv' := [(2, .int (nI (5))), (0, .ref 0), (1, .int (nI (bits)))]) (st' := [.int (nI (1))]) (w2 := saleW 0 S) rfl ?_
      exact ev_zret dX3_allows_43 rfl rfl (Nat.le_of_ble_eq_true rfl) (Nat.le_refl _) (Nat.le_refl _) ⟨(congrArg (fun t => some (Value.int (nI t))) (b01_t (by exact hinv2)).symm), rfl⟩
    | succ j_ ih2 =>
      intro k hk2  hinv2
      have hlt2 : k < 5 := by omega
      have hkb := fun (h : k < 5) => hS.2.2.2.1 k h
      refine ev_b bX3_allows_2_4 (lv' := [(2, .int (nI (k))), (0, .ref 0), (1, .int (nI (bits)))]) (st' := [.int (nI (5)), .int (nI (k))]) (w2 := saleW 0 S) rfl ?_
      refine ev_icmp_ge_n (tgt := 42) (by omega) (by decide) dX3_allows_4 (by decide) (fun h4 => (by exfalso; omega)) (fun h4 => ?_)
      refine ev_b bX3_allows_7_13 (lv' := [(2, .int (nI (k))), (0, .ref 0), (1, .int (nI (bits)))]) (st' := [.int (nI (k)), .ref 5, .ref 0]) (w2 := saleW 0 S) rfl ?_
      refine ev_iald_n (f := S.kd) dX3_allows_13 rfl (by omega) (by decide) ?_
      refine ev_b bX3_allows_14_19 (lv' := [(2, .int (nI (k))), (0, .ref 0), (1, .int (nI (bits)))]) (st' := [.int (nI (k)), .ref 6, .int (nI (S.kd k)), .ref 0]) (w2 := saleW 0 S) rfl ?_
      refine ev_iald_n (f := S.fg) dX3_allows_19 rfl (by omega) (by decide) ?_
      refine ev_b bX3_allows_20_26 (lv' := [(2, .int (nI (k))), (0, .ref 0), (1, .int (nI (bits)))]) (st' := [.int (nI (k)), .ref 4, .int (nI (bits)), .int (nI (S.fg k)), .int (nI (S.kd k)), .ref 0]) (w2 := saleW 0 S) rfl ?_
      refine ev_iald_n (f := S.ow) dX3_allows_26 rfl (by omega) (by decide) ?_
      refine ev_iand_n dX3_allows_27 ?_
      refine ev_callV (Yc := mX3_mayWin) [0, 1, 2, 3, 4, 5, 6, 7] dX3_allows_28 tw_521 kX3_mayWin (m_X3_mayWin S (S.kd k) (S.fg k) (bits &&& S.ow k) hS (Nat.lt_of_le_of_lt Nat.and_le_left hb) (hkb hlt2).2.1 (hkb hlt2).2.2) rfl (st := []) rfl rfl rfl (by decide) rfl (by decide) (Nat.le_of_ble_eq_true rfl) (Nat.le_refl _) (Nat.le_refl _) (fun r w' h => by obtain ⟨-, rfl⟩ := h; exact Nat.le_of_ble_eq_true rfl) ?_
      rintro _ _ ⟨rfl, rfl⟩
      refine ev_eq (lv' := [(2, .int (nI (k))), (0, .ref 0), (1, .int (nI (bits)))]) (st' := [.int (nI (b01 (mayS S bits k)))]) (w' := saleW 0 S) rfl rfl rfl ?_
      refine ev_ifne_b (tgt := 36) dX3_allows_31 (by decide) (fun h31 => ?_) (fun h31 => ?_)
      · skip
        have hnext : ∀ b, b < k + 1 → mayS S bits b := fun b hb2 => by
          rcases Nat.lt_succ_iff_lt_or_eq.mp hb2 with h | h
          · exact hinv2 b h
          · subst h; exact h31
        refine ev_iinc_n (x := k) (v := 1) dX3_allows_36 rfl (by decide) ?_
        refine ev_eq (lv' := [(2, .int (nI (k + 1))), (0, .ref 0), (1, .int (nI (bits)))]) rfl rfl rfl ?_
        refine ev_b bX3_allows_39_2 (lv' := [(2, .int (nI (k + 1))), (0, .ref 0), (1, .int (nI (bits)))]) (st' := []) (w2 := saleW 0 S) rfl ?_
        rw [show nI (k + 1) = nI ((k + 1)) from congrArg nI (by omega)]
        exact ih2 (k + 1) (by omega) hnext
      · skip
        refine ev_b bX3_allows_34_35 (lv' := [(2, .int (nI (k))), (0, .ref 0), (1, .int (nI (bits)))]) (st' := [.int (nI (0))]) (w2 := saleW 0 S) rfl ?_
        exact ev_zret dX3_allows_35 rfl rfl (Nat.le_of_ble_eq_true rfl) (Nat.le_refl _) (Nat.le_refl _) ⟨(congrArg (fun t => some (Value.int (nI t))) (b01_f (by exact fun z => h31 (z k hlt2))).symm), rfl⟩
  exact L2 5 0 (by omega) (fun b hb2 => absurd hb2 (Nat.not_lt_zero b))
def addS (S : SaleN) (b set p : Nat) : SaleN := (up S.bd S.ca b, up S.st S.ca set, up S.pr S.ca p, up S.ow b (S.ow b ||| 1 <<< S.ca), S.kd, S.fg, S.rs, S.ca + 1, S.ac ||| 1 <<< S.ca)
def turnS (S : SaleN) (k : Nat) : SaleN := (S.bd, S.st, S.pr, S.ow, S.kd, S.fg, S.rs, S.ca, S.ac ^^^ 1 <<< k)
def priceS (S : SaleN) (k p : Nat) : SaleN := (S.bd, S.st, up S.pr k p, S.ow, S.kd, S.fg, S.rs, S.ca, S.ac)
def kindS (S : SaleN) (b k f : Nat) : SaleN := (S.bd, S.st, S.pr, S.ow, up S.kd b k, up S.fg b f, S.rs, S.ca, S.ac)
def keepS (S : SaleN) (i r : Nat) : SaleN := (S.bd, S.st, S.pr, S.ow, S.kd, S.fg, up S.rs i r, S.ca, S.ac)
theorem bX3_addBid_0_1 {l : Launch} {E : XE} : Snd l E mX3_addBid 0 1 (xs [x_aload 0]) := Snd.cons (snd_aload_n (i := 0) dX3_addBid_0 rfl) Snd.nil
theorem bX3_addBid_7_8 {l : Launch} {E : XE} : Snd l E mX3_addBid 7 8 (xs [x_iload 1]) := Snd.cons (snd_iload_n (i := 1) dX3_addBid_7 rfl) Snd.nil
theorem bX3_addBid_15_24 {l : Launch} {E : XE} : Snd l E mX3_addBid 15 24 (xs [x_aload 0, x_get 4 0, x_aload 0, x_get 4 7, x_iload 1]) := Snd.cons (snd_aload_n (i := 0) dX3_addBid_15 rfl) (Snd.cons (snd_get (ci := 4) (k := 0) dX3_addBid_16 rfl inX3 (by decide) tw_34) (Snd.cons (snd_aload_n (i := 0) dX3_addBid_19 rfl) (Snd.cons (snd_get (ci := 4) (k := 7) dX3_addBid_20 rfl inX3 (by decide) tw_41) (Snd.cons (snd_iload_n (i := 1) dX3_addBid_23 rfl) Snd.nil))))
theorem bX3_addBid_25_34 {l : Launch} {E : XE} : Snd l E mX3_addBid 25 34 (xs [x_aload 0, x_get 4 1, x_aload 0, x_get 4 7, x_iload 2]) := Snd.cons (snd_aload_n (i := 0) dX3_addBid_25 rfl) (Snd.cons (snd_get (ci := 4) (k := 1) dX3_addBid_26 rfl inX3 (by decide) tw_35) (Snd.cons (snd_aload_n (i := 0) dX3_addBid_29 rfl) (Snd.cons (snd_get (ci := 4) (k := 7) dX3_addBid_30 rfl inX3 (by decide) tw_41) (Snd.cons (snd_iload_n (i := 2) dX3_addBid_33 rfl) Snd.nil))))
theorem bX3_addBid_35_44 {l : Launch} {E : XE} : Snd l E mX3_addBid 35 44 (xs [x_aload 0, x_get 4 2, x_aload 0, x_get 4 7, x_iload 3]) := Snd.cons (snd_aload_n (i := 0) dX3_addBid_35 rfl) (Snd.cons (snd_get (ci := 4) (k := 2) dX3_addBid_36 rfl inX3 (by decide) tw_36) (Snd.cons (snd_aload_n (i := 0) dX3_addBid_39 rfl) (Snd.cons (snd_get (ci := 4) (k := 7) dX3_addBid_40 rfl inX3 (by decide) tw_41) (Snd.cons (snd_iload_n (i := 3) dX3_addBid_43 rfl) Snd.nil))))
theorem bX3_addBid_45_51 {l : Launch} {E : XE} : Snd l E mX3_addBid 45 51 (xs [x_aload 0, x_get 4 3, x_iload 1, x_dup2]) := Snd.cons (snd_aload_n (i := 0) dX3_addBid_45 rfl) (Snd.cons (snd_get (ci := 4) (k := 3) dX3_addBid_46 rfl inX3 (by decide) tw_37) (Snd.cons (snd_iload_n (i := 1) dX3_addBid_49 rfl) (Snd.cons (snd_dup2 dX3_addBid_50) Snd.nil)))
theorem bX3_addBid_52_57 {l : Launch} {E : XE} : Snd l E mX3_addBid 52 57 (xs [x_push (.int (nI 1)), x_aload 0, x_get 4 7]) := Snd.cons (snd_iconst (v := nI 1) dX3_addBid_52 (by decide)) (Snd.cons (snd_aload_n (i := 0) dX3_addBid_53 rfl) (Snd.cons (snd_get (ci := 4) (k := 7) dX3_addBid_54 rfl inX3 (by decide) tw_41) Snd.nil))
theorem bX3_addBid_60_70 {l : Launch} {E : XE} : Snd l E mX3_addBid 60 70 (xs [x_aload 0, x_dup, x_get 4 8, x_push (.int (nI 1)), x_aload 0, x_get 4 7]) := Snd.cons (snd_aload_n (i := 0) dX3_addBid_60 rfl) (Snd.cons (snd_dup dX3_addBid_61) (Snd.cons (snd_get (ci := 4) (k := 8) dX3_addBid_62 rfl inX3 (by decide) tw_46) (Snd.cons (snd_iconst (v := nI 1) dX3_addBid_65 (by decide)) (Snd.cons (snd_aload_n (i := 0) dX3_addBid_66 rfl) (Snd.cons (snd_get (ci := 4) (k := 7) dX3_addBid_67 rfl inX3 (by decide) tw_41) Snd.nil)))))
theorem bX3_addBid_72_81 {l : Launch} {E : XE} : Snd l E mX3_addBid 72 81 (xs [x_puti 4 8, x_aload 0, x_dup, x_get 4 7, x_push (.int (nI 1))]) := Snd.cons (snd_puti (ci := 4) (k := 8) dX3_addBid_72 rfl inX3 tyX3_ok nmX3 (by decide) tw_46 rfl rfl) (Snd.cons (snd_aload_n (i := 0) dX3_addBid_75 rfl) (Snd.cons (snd_dup dX3_addBid_76) (Snd.cons (snd_get (ci := 4) (k := 7) dX3_addBid_77 rfl inX3 (by decide) tw_41) (Snd.cons (snd_iconst (v := nI 1) dX3_addBid_80 (by decide)) Snd.nil))))
theorem bX3_addBid_82_85 {l : Launch} {E : XE} : Snd l E mX3_addBid 82 85 (xs [x_puti 4 7]) := Snd.cons (snd_puti (ci := 4) (k := 7) dX3_addBid_82 rfl inX3 tyX3_ok nmX3 (by decide) tw_41 rfl rfl) Snd.nil
set_option maxHeartbeats 4000000 in
set_option maxRecDepth 100000 in
theorem m_X3_addBid {l : Launch} {E : XE} (S : SaleN) (b set p : Nat) (hS : SaleOK S) (hc : S.ca < 10) (hb : b < 5) : MetE l E mX3_addBid (1) 0 0 [.ref 0, .int (nI (b)), .int (nI (set)), .int (nI (p))] (saleW 0 S) (fun r w' => r = none ∧ w' = saleW 0 (addS S b set p)) := by
  refine MetE.of (by decide +kernel) (Nat.le_of_ble_eq_true rfl) ?_
  refine ev_eq (lv' := [(0, .ref 0), (1, .int (nI (b))), (2, .int (nI (set))), (3, .int (nI (p)))]) (st' := []) (w' := saleW 0 S) rfl rfl rfl ?_
  refine ev_b bX3_addBid_0_1 (lv' := [(0, .ref 0), (1, .int (nI (b))), (2, .int (nI (set))), (3, .int (nI (p)))]) (st' := [.ref 0]) (w2 := saleW 0 S) rfl ?_
  refine ev_callV (Yc := mX3_isFull) [0, 1, 2, 3, 4, 5, 6, 7] dX3_addBid_1 tw_408 kX3_isFull (m_X3_isFull S hS) rfl (st := []) rfl rfl rfl (by decide) rfl (by decide) (Nat.le_of_ble_eq_true rfl) (Nat.le_refl _) (Nat.le_refl _) (fun r w' h => by obtain ⟨-, rfl⟩ := h; exact Nat.le_of_ble_eq_true rfl) ?_
  rintro _ _ ⟨rfl, rfl⟩
  refine ev_eq (lv' := [(0, .ref 0), (1, .int (nI (b))), (2, .int (nI (set))), (3, .int (nI (p)))]) (st' := [.int (nI (b01 (10 ≤ S.ca)))]) (w' := saleW 0 S) rfl rfl rfl ?_
  refine ev_ifne_b (tgt := 14) dX3_addBid_4 (by decide) (fun h4 => (by exfalso; omega)) (fun h4 => ?_)
  refine ev_b bX3_addBid_7_8 (lv' := [(0, .ref 0), (1, .int (nI (b))), (2, .int (nI (set))), (3, .int (nI (p)))]) (st' := [.int (nI (b))]) (w2 := saleW 0 S) rfl ?_
  refine ev_callSN (Yc := mX6_isBidder) [] dX3_addBid_8 tn_409 kX6_isBidder (m_X6_isBidder b (by omega)) rfl (st := []) rfl (by decide) rfl (by decide) (Nat.le_of_ble_eq_true rfl) (Nat.le_refl _) (Nat.le_refl _) (fun r w' h => by obtain ⟨-, rfl⟩ := h; exact Nat.le_of_ble_eq_true rfl) ?_
  rintro _ _ ⟨rfl, rfl⟩
  refine ev_eq (lv' := [(0, .ref 0), (1, .int (nI (b))), (2, .int (nI (set))), (3, .int (nI (p)))]) (st' := [.int (nI (b01 (b < 5)))]) (w' := saleW 0 S) rfl rfl rfl ?_
  refine ev_ifne_b (tgt := 15) dX3_addBid_11 (by decide) (fun h11 => ?_) (fun h11 => (by exfalso; omega))
  refine ev_b bX3_addBid_15_24 (lv' := [(0, .ref 0), (1, .int (nI (b))), (2, .int (nI (set))), (3, .int (nI (p)))]) (st' := [.int (nI (b)), .int (nI (S.ca)), .ref 1]) (w2 := saleW 0 S) rfl ?_
  refine ev_iast_n (f := S.bd) dX3_addBid_24 rfl (by omega) (by decide) ?_
  refine ev_eq (w' := saleW 0 ((up S.bd S.ca b, S.st, S.pr, S.ow, S.kd, S.fg, S.rs, S.ca, S.ac) : SaleN)) rfl rfl rfl ?_
  refine ev_b bX3_addBid_25_34 (lv' := [(0, .ref 0), (1, .int (nI (b))), (2, .int (nI (set))), (3, .int (nI (p)))]) (st' := [.int (nI (set)), .int (nI (S.ca)), .ref 2]) (w2 := saleW 0 ((up S.bd S.ca b, S.st, S.pr, S.ow, S.kd, S.fg, S.rs, S.ca, S.ac) : SaleN)) rfl ?_
  refine ev_iast_n (f := S.st) dX3_addBid_34 rfl (by omega) (by decide) ?_
  refine ev_eq (w' := saleW 0 ((up S.bd S.ca b, up S.st S.ca set, S.pr, S.ow, S.kd, S.fg, S.rs, S.ca, S.ac) : SaleN)) rfl rfl rfl ?_
  refine ev_b bX3_addBid_35_44 (lv' := [(0, .ref 0), (1, .int (nI (b))), (2, .int (nI (set))), (3, .int (nI (p)))]) (st' := [.int (nI (p)), .int (nI (S.ca)), .ref 3]) (w2 := saleW 0 ((up S.bd S.ca b, up S.st S.ca set, S.pr, S.ow, S.kd, S.fg, S.rs, S.ca, S.ac) : SaleN)) rfl ?_
  refine ev_iast_n (f := S.pr) dX3_addBid_44 rfl (by omega) (by decide) ?_
  refine ev_eq (w' := saleW 0 ((up S.bd S.ca b, up S.st S.ca set, up S.pr S.ca p, S.ow, S.kd, S.fg, S.rs, S.ca, S.ac) : SaleN)) rfl rfl rfl ?_
  refine ev_b bX3_addBid_45_51 (lv' := [(0, .ref 0), (1, .int (nI (b))), (2, .int (nI (set))), (3, .int (nI (p)))]) (st' := [.int (nI (b)), .ref 4, .int (nI (b)), .ref 4]) (w2 := saleW 0 ((up S.bd S.ca b, up S.st S.ca set, up S.pr S.ca p, S.ow, S.kd, S.fg, S.rs, S.ca, S.ac) : SaleN)) rfl ?_
  refine ev_iald_n (f := S.ow) dX3_addBid_51 rfl (by omega) (by decide) ?_
  refine ev_b bX3_addBid_52_57 (lv' := [(0, .ref 0), (1, .int (nI (b))), (2, .int (nI (set))), (3, .int (nI (p)))]) (st' := [.int (nI (S.ca)), .int (nI (1)), .int (nI (S.ow b)), .int (nI (b)), .ref 4]) (w2 := saleW 0 ((up S.bd S.ca b, up S.st S.ca set, up S.pr S.ca p, S.ow, S.kd, S.fg, S.rs, S.ca, S.ac) : SaleN)) rfl ?_
  refine ev_ishl_n (by omega) dX3_addBid_57 ?_
  refine ev_ior_n dX3_addBid_58 ?_
  refine ev_iast_n (f := S.ow) dX3_addBid_59 rfl (by omega) (by decide) ?_
  refine ev_eq (w' := saleW 0 ((up S.bd S.ca b, up S.st S.ca set, up S.pr S.ca p, up S.ow b ((S.ow b) ||| (1 <<< S.ca)), S.kd, S.fg, S.rs, S.ca, S.ac) : SaleN)) rfl rfl rfl ?_
  refine ev_b bX3_addBid_60_70 (lv' := [(0, .ref 0), (1, .int (nI (b))), (2, .int (nI (set))), (3, .int (nI (p)))]) (st' := [.int (nI (S.ca)), .int (nI (1)), .int (nI (S.ac)), .ref 0]) (w2 := saleW 0 ((up S.bd S.ca b, up S.st S.ca set, up S.pr S.ca p, up S.ow b ((S.ow b) ||| (1 <<< S.ca)), S.kd, S.fg, S.rs, S.ca, S.ac) : SaleN)) rfl ?_
  refine ev_ishl_n (by omega) dX3_addBid_70 ?_
  refine ev_ior_n dX3_addBid_71 ?_
  refine ev_b bX3_addBid_72_81 (lv' := [(0, .ref 0), (1, .int (nI (b))), (2, .int (nI (set))), (3, .int (nI (p)))]) (st' := [.int (nI (1)), .int (nI (S.ca)), .ref 0]) (w2 := saleW 0 ((up S.bd S.ca b, up S.st S.ca set, up S.pr S.ca p, up S.ow b ((S.ow b) ||| (1 <<< S.ca)), S.kd, S.fg, S.rs, S.ca, S.ac ||| (1 <<< S.ca)) : SaleN)) rfl ?_
  refine ev_iadd_n dX3_addBid_81 ?_
  refine ev_b bX3_addBid_82_85 (lv' := [(0, .ref 0), (1, .int (nI (b))), (2, .int (nI (set))), (3, .int (nI (p)))]) (st' := []) (w2 := saleW 0 ((up S.bd S.ca b, up S.st S.ca set, up S.pr S.ca p, up S.ow b ((S.ow b) ||| (1 <<< S.ca)), S.kd, S.fg, S.rs, S.ca + 1, S.ac ||| (1 <<< S.ca)) : SaleN)) rfl ?_
  exact ev_vret dX3_addBid_85 rfl (Nat.le_of_ble_eq_true rfl) (Nat.le_refl _) (Nat.le_refl _) ⟨rfl, (by rfl)⟩
theorem bX3_turnOver_0_2 {l : Launch} {E : XE} : Snd l E mX3_turnOver 0 2 (xs [x_aload 0, x_iload 1]) := Snd.cons (snd_aload_n (i := 0) dX3_turnOver_0 rfl) (Snd.cons (snd_iload_n (i := 1) dX3_turnOver_1 rfl) Snd.nil)
theorem bX3_turnOver_8_15 {l : Launch} {E : XE} : Snd l E mX3_turnOver 8 15 (xs [x_aload 0, x_dup, x_get 4 8, x_push (.int (nI 1)), x_iload 1]) := Snd.cons (snd_aload_n (i := 0) dX3_turnOver_8 rfl) (Snd.cons (snd_dup dX3_turnOver_9) (Snd.cons (snd_get (ci := 4) (k := 8) dX3_turnOver_10 rfl inX3 (by decide) tw_46) (Snd.cons (snd_iconst (v := nI 1) dX3_turnOver_13 (by decide)) (Snd.cons (snd_iload_n (i := 1) dX3_turnOver_14 rfl) Snd.nil))))
theorem bX3_turnOver_17_20 {l : Launch} {E : XE} : Snd l E mX3_turnOver 17 20 (xs [x_puti 4 8]) := Snd.cons (snd_puti (ci := 4) (k := 8) dX3_turnOver_17 rfl inX3 tyX3_ok nmX3 (by decide) tw_46 rfl rfl) Snd.nil
set_option maxHeartbeats 4000000 in
set_option maxRecDepth 100000 in
theorem m_X3_turnOver {l : Launch} {E : XE} (S : SaleN) (k : Nat) (hS : SaleOK S) (hk : k < S.ca) : MetE l E mX3_turnOver (1) 0 0 [.ref 0, .int (nI (k))] (saleW 0 S) (fun r w' => r = none ∧ w' = saleW 0 (turnS S k)) := by
  refine MetE.of (by decide +kernel) (Nat.le_of_ble_eq_true rfl) ?_
  have hca := hS.1
  refine ev_eq (lv' := [(0, .ref 0), (1, .int (nI (k)))]) (st' := []) (w' := saleW 0 S) rfl rfl rfl ?_
  refine ev_b bX3_turnOver_0_2 (lv' := [(0, .ref 0), (1, .int (nI (k)))]) (st' := [.int (nI (k)), .ref 0]) (w2 := saleW 0 S) rfl ?_
  refine ev_callV (Yc := mX3_hasBid) [0, 1, 2, 3, 4, 5, 6, 7] dX3_turnOver_2 tw_414 kX3_hasBid (m_X3_hasBid S k hS (by have := hS.1; omega)) rfl (st := []) rfl rfl rfl (by decide) rfl (by decide) (Nat.le_of_ble_eq_true rfl) (Nat.le_refl _) (Nat.le_refl _) (fun r w' h => by obtain ⟨-, rfl⟩ := h; exact Nat.le_of_ble_eq_true rfl) ?_
  rintro _ _ ⟨rfl, rfl⟩
  refine ev_eq (lv' := [(0, .ref 0), (1, .int (nI (k)))]) (st' := [.int (nI (b01 (k < S.ca)))]) (w' := saleW 0 S) rfl rfl rfl ?_
  refine ev_ifeq_b (tgt := 20) dX3_turnOver_5 (by decide) (fun h5 => (by exfalso; omega)) (fun h5 => ?_)
  refine ev_b bX3_turnOver_8_15 (lv' := [(0, .ref 0), (1, .int (nI (k)))]) (st' := [.int (nI (k)), .int (nI (1)), .int (nI (S.ac)), .ref 0]) (w2 := saleW 0 S) rfl ?_
  refine ev_ishl_n (by omega) dX3_turnOver_15 ?_
  refine ev_ixor_n dX3_turnOver_16 ?_
  refine ev_b bX3_turnOver_17_20 (lv' := [(0, .ref 0), (1, .int (nI (k)))]) (st' := []) (w2 := saleW 0 ((S.bd, S.st, S.pr, S.ow, S.kd, S.fg, S.rs, S.ca, S.ac ^^^ (1 <<< k)) : SaleN)) rfl ?_
  exact ev_vret dX3_turnOver_20 rfl (Nat.le_of_ble_eq_true rfl) (Nat.le_refl _) (Nat.le_refl _) ⟨rfl, (by rfl)⟩
theorem bX3_setPrice_0_2 {l : Launch} {E : XE} : Snd l E mX3_setPrice 0 2 (xs [x_aload 0, x_iload 1]) := Snd.cons (snd_aload_n (i := 0) dX3_setPrice_0 rfl) (Snd.cons (snd_iload_n (i := 1) dX3_setPrice_1 rfl) Snd.nil)
theorem bX3_setPrice_8_14 {l : Launch} {E : XE} : Snd l E mX3_setPrice 8 14 (xs [x_aload 0, x_get 4 2, x_iload 1, x_iload 2]) := Snd.cons (snd_aload_n (i := 0) dX3_setPrice_8 rfl) (Snd.cons (snd_get (ci := 4) (k := 2) dX3_setPrice_9 rfl inX3 (by decide) tw_36) (Snd.cons (snd_iload_n (i := 1) dX3_setPrice_12 rfl) (Snd.cons (snd_iload_n (i := 2) dX3_setPrice_13 rfl) Snd.nil)))
set_option maxHeartbeats 4000000 in
set_option maxRecDepth 100000 in
theorem m_X3_setPrice {l : Launch} {E : XE} (S : SaleN) (k p : Nat) (hS : SaleOK S) (hk : k < S.ca) : MetE l E mX3_setPrice (1) 0 0 [.ref 0, .int (nI (k)), .int (nI (p))] (saleW 0 S) (fun r w' => r = none ∧ w' = saleW 0 (priceS S k p)) := by
  refine MetE.of (by decide +kernel) (Nat.le_of_ble_eq_true rfl) ?_
  have hca := hS.1
  refine ev_eq (lv' := [(0, .ref 0), (1, .int (nI (k))), (2, .int (nI (p)))]) (st' := []) (w' := saleW 0 S) rfl rfl rfl ?_
  refine ev_b bX3_setPrice_0_2 (lv' := [(0, .ref 0), (1, .int (nI (k))), (2, .int (nI (p)))]) (st' := [.int (nI (k)), .ref 0]) (w2 := saleW 0 S) rfl ?_
  refine ev_callV (Yc := mX3_hasBid) [0, 1, 2, 3, 4, 5, 6, 7] dX3_setPrice_2 tw_414 kX3_hasBid (m_X3_hasBid S k hS (by have := hS.1; omega)) rfl (st := []) rfl rfl rfl (by decide) rfl (by decide) (Nat.le_of_ble_eq_true rfl) (Nat.le_refl _) (Nat.le_refl _) (fun r w' h => by obtain ⟨-, rfl⟩ := h; exact Nat.le_of_ble_eq_true rfl) ?_
  rintro _ _ ⟨rfl, rfl⟩
  refine ev_eq (lv' := [(0, .ref 0), (1, .int (nI (k))), (2, .int (nI (p)))]) (st' := [.int (nI (b01 (k < S.ca)))]) (w' := saleW 0 S) rfl rfl rfl ?_
  refine ev_ifeq_b (tgt := 15) dX3_setPrice_5 (by decide) (fun h5 => (by exfalso; omega)) (fun h5 => ?_)
  refine ev_b bX3_setPrice_8_14 (lv' := [(0, .ref 0), (1, .int (nI (k))), (2, .int (nI (p)))]) (st' := [.int (nI (p)), .int (nI (k)), .ref 3]) (w2 := saleW 0 S) rfl ?_
  refine ev_iast_n (f := S.pr) dX3_setPrice_14 rfl (by omega) (by decide) ?_
  refine ev_eq (w' := saleW 0 ((S.bd, S.st, up S.pr k p, S.ow, S.kd, S.fg, S.rs, S.ca, S.ac) : SaleN)) rfl rfl rfl ?_
  exact ev_vret dX3_setPrice_15 rfl (Nat.le_of_ble_eq_true rfl) (Nat.le_refl _) (Nat.le_refl _) ⟨rfl, (by rfl)⟩
theorem bX3_setKind_0_1 {l : Launch} {E : XE} : Snd l E mX3_setKind 0 1 (xs [x_iload 1]) := Snd.cons (snd_iload_n (i := 1) dX3_setKind_0 rfl) Snd.nil
theorem bX3_setKind_7_13 {l : Launch} {E : XE} : Snd l E mX3_setKind 7 13 (xs [x_aload 0, x_get 4 4, x_iload 1, x_iload 2]) := Snd.cons (snd_aload_n (i := 0) dX3_setKind_7 rfl) (Snd.cons (snd_get (ci := 4) (k := 4) dX3_setKind_8 rfl inX3 (by decide) tw_38) (Snd.cons (snd_iload_n (i := 1) dX3_setKind_11 rfl) (Snd.cons (snd_iload_n (i := 2) dX3_setKind_12 rfl) Snd.nil)))
theorem bX3_setKind_14_20 {l : Launch} {E : XE} : Snd l E mX3_setKind 14 20 (xs [x_aload 0, x_get 4 5, x_iload 1, x_iload 3]) := Snd.cons (snd_aload_n (i := 0) dX3_setKind_14 rfl) (Snd.cons (snd_get (ci := 4) (k := 5) dX3_setKind_15 rfl inX3 (by decide) tw_39) (Snd.cons (snd_iload_n (i := 1) dX3_setKind_18 rfl) (Snd.cons (snd_iload_n (i := 3) dX3_setKind_19 rfl) Snd.nil)))
set_option maxHeartbeats 4000000 in
set_option maxRecDepth 100000 in
theorem m_X3_setKind {l : Launch} {E : XE} (S : SaleN) (b k f : Nat) (hb : b < 5) : MetE l E mX3_setKind (1) 0 0 [.ref 0, .int (nI (b)), .int (nI (k)), .int (nI (f))] (saleW 0 S) (fun r w' => r = none ∧ w' = saleW 0 (kindS S b k f)) := by
  refine MetE.of (by decide +kernel) (Nat.le_of_ble_eq_true rfl) ?_
  refine ev_eq (lv' := [(0, .ref 0), (1, .int (nI (b))), (2, .int (nI (k))), (3, .int (nI (f)))]) (st' := []) (w' := saleW 0 S) rfl rfl rfl ?_
  refine ev_b bX3_setKind_0_1 (lv' := [(0, .ref 0), (1, .int (nI (b))), (2, .int (nI (k))), (3, .int (nI (f)))]) (st' := [.int (nI (b))]) (w2 := saleW 0 S) rfl ?_
  refine ev_callSN (Yc := mX6_isBidder) [] dX3_setKind_1 tn_409 kX6_isBidder (m_X6_isBidder b (by omega)) rfl (st := []) rfl (by decide) rfl (by decide) (Nat.le_of_ble_eq_true rfl) (Nat.le_refl _) (Nat.le_refl _) (fun r w' h => by obtain ⟨-, rfl⟩ := h; exact Nat.le_of_ble_eq_true rfl) ?_
  rintro _ _ ⟨rfl, rfl⟩
  refine ev_eq (lv' := [(0, .ref 0), (1, .int (nI (b))), (2, .int (nI (k))), (3, .int (nI (f)))]) (st' := [.int (nI (b01 (b < 5)))]) (w' := saleW 0 S) rfl rfl rfl ?_
  refine ev_ifeq_b (tgt := 21) dX3_setKind_4 (by decide) (fun h4 => (by exfalso; omega)) (fun h4 => ?_)
  refine ev_b bX3_setKind_7_13 (lv' := [(0, .ref 0), (1, .int (nI (b))), (2, .int (nI (k))), (3, .int (nI (f)))]) (st' := [.int (nI (k)), .int (nI (b)), .ref 5]) (w2 := saleW 0 S) rfl ?_
  refine ev_iast_n (f := S.kd) dX3_setKind_13 rfl (by omega) (by decide) ?_
  refine ev_eq (w' := saleW 0 ((S.bd, S.st, S.pr, S.ow, up S.kd b k, S.fg, S.rs, S.ca, S.ac) : SaleN)) rfl rfl rfl ?_
  refine ev_b bX3_setKind_14_20 (lv' := [(0, .ref 0), (1, .int (nI (b))), (2, .int (nI (k))), (3, .int (nI (f)))]) (st' := [.int (nI (f)), .int (nI (b)), .ref 6]) (w2 := saleW 0 ((S.bd, S.st, S.pr, S.ow, up S.kd b k, S.fg, S.rs, S.ca, S.ac) : SaleN)) rfl ?_
  refine ev_iast_n (f := S.fg) dX3_setKind_20 rfl (by omega) (by decide) ?_
  refine ev_eq (w' := saleW 0 ((S.bd, S.st, S.pr, S.ow, up S.kd b k, up S.fg b f, S.rs, S.ca, S.ac) : SaleN)) rfl rfl rfl ?_
  exact ev_vret dX3_setKind_21 rfl (Nat.le_of_ble_eq_true rfl) (Nat.le_refl _) (Nat.le_refl _) ⟨rfl, (by rfl)⟩
theorem bX3_setReserve_0_1 {l : Launch} {E : XE} : Snd l E mX3_setReserve 0 1 (xs [x_iload 1]) := Snd.cons (snd_iload_n (i := 1) dX3_setReserve_0 rfl) Snd.nil
theorem bX3_setReserve_7_13 {l : Launch} {E : XE} : Snd l E mX3_setReserve 7 13 (xs [x_aload 0, x_get 4 6, x_iload 1, x_iload 2]) := Snd.cons (snd_aload_n (i := 0) dX3_setReserve_7 rfl) (Snd.cons (snd_get (ci := 4) (k := 6) dX3_setReserve_8 rfl inX3 (by decide) tw_40) (Snd.cons (snd_iload_n (i := 1) dX3_setReserve_11 rfl) (Snd.cons (snd_iload_n (i := 2) dX3_setReserve_12 rfl) Snd.nil)))
set_option maxHeartbeats 4000000 in
set_option maxRecDepth 100000 in
theorem m_X3_setReserve {l : Launch} {E : XE} (S : SaleN) (i v : Nat) (hi : i < 6) : MetE l E mX3_setReserve (1) 0 0 [.ref 0, .int (nI (i)), .int (nI (v))] (saleW 0 S) (fun r w' => r = none ∧ w' = saleW 0 (keepS S i v)) := by
  refine MetE.of (by decide +kernel) (Nat.le_of_ble_eq_true rfl) ?_
  refine ev_eq (lv' := [(0, .ref 0), (1, .int (nI (i))), (2, .int (nI (v)))]) (st' := []) (w' := saleW 0 S) rfl rfl rfl ?_
  refine ev_b bX3_setReserve_0_1 (lv' := [(0, .ref 0), (1, .int (nI (i))), (2, .int (nI (v)))]) (st' := [.int (nI (i))]) (w2 := saleW 0 S) rfl ?_
  refine ev_callSN (Yc := mX6_isItem) [] dX3_setReserve_1 tn_423 kX6_isItem (m_X6_isItem i (by omega)) rfl (st := []) rfl (by decide) rfl (by decide) (Nat.le_of_ble_eq_true rfl) (Nat.le_refl _) (Nat.le_refl _) (fun r w' h => by obtain ⟨-, rfl⟩ := h; exact Nat.le_of_ble_eq_true rfl) ?_
  rintro _ _ ⟨rfl, rfl⟩
  refine ev_eq (lv' := [(0, .ref 0), (1, .int (nI (i))), (2, .int (nI (v)))]) (st' := [.int (nI (b01 (i < 6)))]) (w' := saleW 0 S) rfl rfl rfl ?_
  refine ev_ifeq_b (tgt := 14) dX3_setReserve_4 (by decide) (fun h4 => (by exfalso; omega)) (fun h4 => ?_)
  refine ev_b bX3_setReserve_7_13 (lv' := [(0, .ref 0), (1, .int (nI (i))), (2, .int (nI (v)))]) (st' := [.int (nI (v)), .int (nI (i)), .ref 7]) (w2 := saleW 0 S) rfl ?_
  refine ev_iast_n (f := S.rs) dX3_setReserve_13 rfl (by omega) (by decide) ?_
  refine ev_eq (w' := saleW 0 ((S.bd, S.st, S.pr, S.ow, S.kd, S.fg, up S.rs i v, S.ca, S.ac) : SaleN)) rfl rfl rfl ?_
  exact ev_vret dX3_setReserve_14 rfl (Nat.le_of_ble_eq_true rfl) (Nat.le_refl _) (Nat.le_refl _) ⟨rfl, (by rfl)⟩
theorem bX3_takeFrom_0_12 {l : Launch} {E : XE} : Snd l E mX3_takeFrom 0 12 (xs [x_aload 1, x_get 4 0, x_push (.int (nI 0)), x_aload 0, x_get 4 0, x_push (.int (nI 0)), x_push (.int (nI 10))]) := Snd.cons (snd_aload_n (i := 1) dX3_takeFrom_0 rfl) (Snd.cons (snd_get (ci := 4) (k := 0) dX3_takeFrom_1 rfl inX3 (by decide) tw_34) (Snd.cons (snd_iconst (v := nI 0) dX3_takeFrom_4 (by decide)) (Snd.cons (snd_aload_n (i := 0) dX3_takeFrom_5 rfl) (Snd.cons (snd_get (ci := 4) (k := 0) dX3_takeFrom_6 rfl inX3 (by decide) tw_34) (Snd.cons (snd_iconst (v := nI 0) dX3_takeFrom_9 (by decide)) (Snd.cons (snd_bipush (v := nI 10) dX3_takeFrom_10 (by decide)) Snd.nil))))))
theorem bX3_takeFrom_15_27 {l : Launch} {E : XE} : Snd l E mX3_takeFrom 15 27 (xs [x_aload 1, x_get 4 1, x_push (.int (nI 0)), x_aload 0, x_get 4 1, x_push (.int (nI 0)), x_push (.int (nI 10))]) := Snd.cons (snd_aload_n (i := 1) dX3_takeFrom_15 rfl) (Snd.cons (snd_get (ci := 4) (k := 1) dX3_takeFrom_16 rfl inX3 (by decide) tw_35) (Snd.cons (snd_iconst (v := nI 0) dX3_takeFrom_19 (by decide)) (Snd.cons (snd_aload_n (i := 0) dX3_takeFrom_20 rfl) (Snd.cons (snd_get (ci := 4) (k := 1) dX3_takeFrom_21 rfl inX3 (by decide) tw_35) (Snd.cons (snd_iconst (v := nI 0) dX3_takeFrom_24 (by decide)) (Snd.cons (snd_bipush (v := nI 10) dX3_takeFrom_25 (by decide)) Snd.nil))))))
theorem bX3_takeFrom_30_42 {l : Launch} {E : XE} : Snd l E mX3_takeFrom 30 42 (xs [x_aload 1, x_get 4 2, x_push (.int (nI 0)), x_aload 0, x_get 4 2, x_push (.int (nI 0)), x_push (.int (nI 10))]) := Snd.cons (snd_aload_n (i := 1) dX3_takeFrom_30 rfl) (Snd.cons (snd_get (ci := 4) (k := 2) dX3_takeFrom_31 rfl inX3 (by decide) tw_36) (Snd.cons (snd_iconst (v := nI 0) dX3_takeFrom_34 (by decide)) (Snd.cons (snd_aload_n (i := 0) dX3_takeFrom_35 rfl) (Snd.cons (snd_get (ci := 4) (k := 2) dX3_takeFrom_36 rfl inX3 (by decide) tw_36) (Snd.cons (snd_iconst (v := nI 0) dX3_takeFrom_39 (by decide)) (Snd.cons (snd_bipush (v := nI 10) dX3_takeFrom_40 (by decide)) Snd.nil))))))
theorem bX3_takeFrom_45_56 {l : Launch} {E : XE} : Snd l E mX3_takeFrom 45 56 (xs [x_aload 1, x_get 4 3, x_push (.int (nI 0)), x_aload 0, x_get 4 3, x_push (.int (nI 0)), x_push (.int (nI 5))]) := Snd.cons (snd_aload_n (i := 1) dX3_takeFrom_45 rfl) (Snd.cons (snd_get (ci := 4) (k := 3) dX3_takeFrom_46 rfl inX3 (by decide) tw_37) (Snd.cons (snd_iconst (v := nI 0) dX3_takeFrom_49 (by decide)) (Snd.cons (snd_aload_n (i := 0) dX3_takeFrom_50 rfl) (Snd.cons (snd_get (ci := 4) (k := 3) dX3_takeFrom_51 rfl inX3 (by decide) tw_37) (Snd.cons (snd_iconst (v := nI 0) dX3_takeFrom_54 (by decide)) (Snd.cons (snd_iconst (v := nI 5) dX3_takeFrom_55 (by decide)) Snd.nil))))))
theorem bX3_takeFrom_59_70 {l : Launch} {E : XE} : Snd l E mX3_takeFrom 59 70 (xs [x_aload 1, x_get 4 4, x_push (.int (nI 0)), x_aload 0, x_get 4 4, x_push (.int (nI 0)), x_push (.int (nI 5))]) := Snd.cons (snd_aload_n (i := 1) dX3_takeFrom_59 rfl) (Snd.cons (snd_get (ci := 4) (k := 4) dX3_takeFrom_60 rfl inX3 (by decide) tw_38) (Snd.cons (snd_iconst (v := nI 0) dX3_takeFrom_63 (by decide)) (Snd.cons (snd_aload_n (i := 0) dX3_takeFrom_64 rfl) (Snd.cons (snd_get (ci := 4) (k := 4) dX3_takeFrom_65 rfl inX3 (by decide) tw_38) (Snd.cons (snd_iconst (v := nI 0) dX3_takeFrom_68 (by decide)) (Snd.cons (snd_iconst (v := nI 5) dX3_takeFrom_69 (by decide)) Snd.nil))))))
theorem bX3_takeFrom_73_84 {l : Launch} {E : XE} : Snd l E mX3_takeFrom 73 84 (xs [x_aload 1, x_get 4 5, x_push (.int (nI 0)), x_aload 0, x_get 4 5, x_push (.int (nI 0)), x_push (.int (nI 5))]) := Snd.cons (snd_aload_n (i := 1) dX3_takeFrom_73 rfl) (Snd.cons (snd_get (ci := 4) (k := 5) dX3_takeFrom_74 rfl inX3 (by decide) tw_39) (Snd.cons (snd_iconst (v := nI 0) dX3_takeFrom_77 (by decide)) (Snd.cons (snd_aload_n (i := 0) dX3_takeFrom_78 rfl) (Snd.cons (snd_get (ci := 4) (k := 5) dX3_takeFrom_79 rfl inX3 (by decide) tw_39) (Snd.cons (snd_iconst (v := nI 0) dX3_takeFrom_82 (by decide)) (Snd.cons (snd_iconst (v := nI 5) dX3_takeFrom_83 (by decide)) Snd.nil))))))
theorem bX3_takeFrom_87_99 {l : Launch} {E : XE} : Snd l E mX3_takeFrom 87 99 (xs [x_aload 1, x_get 4 6, x_push (.int (nI 0)), x_aload 0, x_get 4 6, x_push (.int (nI 0)), x_push (.int (nI 6))]) := Snd.cons (snd_aload_n (i := 1) dX3_takeFrom_87 rfl) (Snd.cons (snd_get (ci := 4) (k := 6) dX3_takeFrom_88 rfl inX3 (by decide) tw_40) (Snd.cons (snd_iconst (v := nI 0) dX3_takeFrom_91 (by decide)) (Snd.cons (snd_aload_n (i := 0) dX3_takeFrom_92 rfl) (Snd.cons (snd_get (ci := 4) (k := 6) dX3_takeFrom_93 rfl inX3 (by decide) tw_40) (Snd.cons (snd_iconst (v := nI 0) dX3_takeFrom_96 (by decide)) (Snd.cons (snd_bipush (v := nI 6) dX3_takeFrom_97 (by decide)) Snd.nil))))))
theorem bX3_takeFrom_102_118 {l : Launch} {E : XE} : Snd l E mX3_takeFrom 102 118 (xs [x_aload 0, x_aload 1, x_get 4 7, x_puti 4 7, x_aload 0, x_aload 1, x_get 4 8, x_puti 4 8]) := Snd.cons (snd_aload_n (i := 0) dX3_takeFrom_102 rfl) (Snd.cons (snd_aload_n (i := 1) dX3_takeFrom_103 rfl) (Snd.cons (snd_get (ci := 4) (k := 7) dX3_takeFrom_104 rfl inX3 (by decide) tw_41) (Snd.cons (snd_puti (ci := 4) (k := 7) dX3_takeFrom_107 rfl inX3 tyX3_ok nmX3 (by decide) tw_41 rfl rfl) (Snd.cons (snd_aload_n (i := 0) dX3_takeFrom_110 rfl) (Snd.cons (snd_aload_n (i := 1) dX3_takeFrom_111 rfl) (Snd.cons (snd_get (ci := 4) (k := 8) dX3_takeFrom_112 rfl inX3 (by decide) tw_46) (Snd.cons (snd_puti (ci := 4) (k := 8) dX3_takeFrom_115 rfl inX3 tyX3_ok nmX3 (by decide) tw_46 rfl rfl) Snd.nil)))))))
set_option maxHeartbeats 4000000 in
set_option maxRecDepth 100000 in
theorem m_X3_takeFrom {l : Launch} {E : XE} (S T : SaleN)  : MetE l E mX3_takeFrom (1) 0 0 [.ref 0, .ref 8] (saleW 0 S ++ saleW 8 T) (fun r w' => r = none ∧ w' = saleW 0 T ++ saleW 8 T) := by
  refine MetE.of (by decide +kernel) (Nat.le_of_ble_eq_true rfl) ?_
  refine ev_eq (lv' := [(0, .ref 0), (1, .ref 8)]) (st' := []) (w' := saleW 0 S ++ saleW 8 T) rfl rfl rfl ?_
  refine ev_b bX3_takeFrom_0_12 (lv' := [(0, .ref 0), (1, .ref 8)]) (st' := [.int (nI (10)), .int (nI (0)), .ref 1, .int (nI (0)), .ref 9]) (w2 := saleW 0 S ++ saleW 8 T) rfl ?_
  refine ev_copy dX3_takeFrom_12 tw_376 tw_378 tw_377 tw_13 rfl rfl (by decide) (by decide) (Nat.le_of_ble_eq_true rfl) ?_
  refine ev_eq (w' := saleW 0 ((T.bd, S.st, S.pr, S.ow, S.kd, S.fg, S.rs, S.ca, S.ac) : SaleN) ++ saleW 8 T) rfl rfl rfl ?_
  refine ev_b bX3_takeFrom_15_27 (lv' := [(0, .ref 0), (1, .ref 8)]) (st' := [.int (nI (10)), .int (nI (0)), .ref 2, .int (nI (0)), .ref 10]) (w2 := saleW 0 ((T.bd, S.st, S.pr, S.ow, S.kd, S.fg, S.rs, S.ca, S.ac) : SaleN) ++ saleW 8 T) rfl ?_
  refine ev_copy dX3_takeFrom_27 tw_376 tw_378 tw_377 tw_13 rfl rfl (by decide) (by decide) (Nat.le_of_ble_eq_true rfl) ?_
  refine ev_eq (w' := saleW 0 ((T.bd, T.st, S.pr, S.ow, S.kd, S.fg, S.rs, S.ca, S.ac) : SaleN) ++ saleW 8 T) rfl rfl rfl ?_
  refine ev_b bX3_takeFrom_30_42 (lv' := [(0, .ref 0), (1, .ref 8)]) (st' := [.int (nI (10)), .int (nI (0)), .ref 3, .int (nI (0)), .ref 11]) (w2 := saleW 0 ((T.bd, T.st, S.pr, S.ow, S.kd, S.fg, S.rs, S.ca, S.ac) : SaleN) ++ saleW 8 T) rfl ?_
  refine ev_copy dX3_takeFrom_42 tw_376 tw_378 tw_377 tw_13 rfl rfl (by decide) (by decide) (Nat.le_of_ble_eq_true rfl) ?_
  refine ev_eq (w' := saleW 0 ((T.bd, T.st, T.pr, S.ow, S.kd, S.fg, S.rs, S.ca, S.ac) : SaleN) ++ saleW 8 T) rfl rfl rfl ?_
  refine ev_b bX3_takeFrom_45_56 (lv' := [(0, .ref 0), (1, .ref 8)]) (st' := [.int (nI (5)), .int (nI (0)), .ref 4, .int (nI (0)), .ref 12]) (w2 := saleW 0 ((T.bd, T.st, T.pr, S.ow, S.kd, S.fg, S.rs, S.ca, S.ac) : SaleN) ++ saleW 8 T) rfl ?_
  refine ev_copy dX3_takeFrom_56 tw_376 tw_378 tw_377 tw_13 rfl rfl (by decide) (by decide) (Nat.le_of_ble_eq_true rfl) ?_
  refine ev_eq (w' := saleW 0 ((T.bd, T.st, T.pr, T.ow, S.kd, S.fg, S.rs, S.ca, S.ac) : SaleN) ++ saleW 8 T) rfl rfl rfl ?_
  refine ev_b bX3_takeFrom_59_70 (lv' := [(0, .ref 0), (1, .ref 8)]) (st' := [.int (nI (5)), .int (nI (0)), .ref 5, .int (nI (0)), .ref 13]) (w2 := saleW 0 ((T.bd, T.st, T.pr, T.ow, S.kd, S.fg, S.rs, S.ca, S.ac) : SaleN) ++ saleW 8 T) rfl ?_
  refine ev_copy dX3_takeFrom_70 tw_376 tw_378 tw_377 tw_13 rfl rfl (by decide) (by decide) (Nat.le_of_ble_eq_true rfl) ?_
  refine ev_eq (w' := saleW 0 ((T.bd, T.st, T.pr, T.ow, T.kd, S.fg, S.rs, S.ca, S.ac) : SaleN) ++ saleW 8 T) rfl rfl rfl ?_
  refine ev_b bX3_takeFrom_73_84 (lv' := [(0, .ref 0), (1, .ref 8)]) (st' := [.int (nI (5)), .int (nI (0)), .ref 6, .int (nI (0)), .ref 14]) (w2 := saleW 0 ((T.bd, T.st, T.pr, T.ow, T.kd, S.fg, S.rs, S.ca, S.ac) : SaleN) ++ saleW 8 T) rfl ?_
  refine ev_copy dX3_takeFrom_84 tw_376 tw_378 tw_377 tw_13 rfl rfl (by decide) (by decide) (Nat.le_of_ble_eq_true rfl) ?_
  refine ev_eq (w' := saleW 0 ((T.bd, T.st, T.pr, T.ow, T.kd, T.fg, S.rs, S.ca, S.ac) : SaleN) ++ saleW 8 T) rfl rfl rfl ?_
  refine ev_b bX3_takeFrom_87_99 (lv' := [(0, .ref 0), (1, .ref 8)]) (st' := [.int (nI (6)), .int (nI (0)), .ref 7, .int (nI (0)), .ref 15]) (w2 := saleW 0 ((T.bd, T.st, T.pr, T.ow, T.kd, T.fg, S.rs, S.ca, S.ac) : SaleN) ++ saleW 8 T) rfl ?_
  refine ev_copy dX3_takeFrom_99 tw_376 tw_378 tw_377 tw_13 rfl rfl (by decide) (by decide) (Nat.le_of_ble_eq_true rfl) ?_
  refine ev_eq (w' := saleW 0 ((T.bd, T.st, T.pr, T.ow, T.kd, T.fg, T.rs, S.ca, S.ac) : SaleN) ++ saleW 8 T) rfl rfl rfl ?_
  refine ev_b bX3_takeFrom_102_118 (lv' := [(0, .ref 0), (1, .ref 8)]) (st' := []) (w2 := saleW 0 ((T.bd, T.st, T.pr, T.ow, T.kd, T.fg, T.rs, T.ca, T.ac) : SaleN) ++ saleW 8 T) rfl ?_
  exact ev_vret dX3_takeFrom_118 rfl (Nat.le_of_ble_eq_true rfl) (Nat.le_refl _) (Nat.le_refl _) ⟨rfl, (by rfl)⟩
