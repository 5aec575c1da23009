abbrev OutN : Type := (Nat → Nat) × (Nat → Nat) × (Nat → Nat) × (Nat → Nat) × Nat × Nat
abbrev OutN.pk (O : OutN) : Nat → Nat := O.1
abbrev OutN.it (O : OutN) : Nat → Nat := O.2.1
abbrev OutN.wo (O : OutN) : Nat → Nat := O.2.2.1
abbrev OutN.ke (O : OutN) : Nat → Nat := O.2.2.2.1
abbrev OutN.pc (O : OutN) : Nat := O.2.2.2.2.1
abbrev OutN.sz (O : OutN) : Nat := O.2.2.2.2.2
def outW (b : Nat) (O : OutN) : AW := [.inr (2, [.ref (b + 1), .ref (b + 2), .ref (b + 3), .ref (b + 4), .int (nI O.pc), .int (nI O.sz)]), .inl (0, 1024, .inl (aI O.pk)), .inl (0, 1024, .inl (aI O.it)), .inl (0, 1024, .inl (aI O.wo)), .inl (0, 1024, .inl (aI O.ke))]
/-- a key: how far the worth is below 1023, how many bids, the bids -/
def keyN (bits worth : Nat) : Nat := ((1023 - worth) <<< 14 ||| pop bits <<< 10) ||| bits
def bidsN (key : Nat) : Nat := key &&& 1023
def worthK (key : Nat) : Nat := 1023 - key >>> 14
/-- the least key of those whose bids are among some -/
def firstTo (ke : Nat → Nat) (some : Nat) : Nat → Nat
  | 0 => 2147483647
  | k + 1 => if ke k < firstTo ke some k ∧ andn (bidsN (ke k)) some = 0 then ke k else firstTo ke some k
theorem firstTo_s {ke : Nat → Nat} {some k : Nat} : firstTo ke some (k + 1) = if ke k < firstTo ke some k ∧ andn (bidsN (ke k)) some = 0 then ke k else firstTo ke some k := rfl
theorem firstTo_lt {ke : Nat → Nat} {some n : Nat} (h : ∀ k, k < n → ke k < 2147483648) : ∀ m, m ≤ n → firstTo ke some m < 2147483648
  | 0, _ => by unfold firstTo; decide
  | m + 1, hm => by
    rw [firstTo_s]
    split
    · exact h m (by omega)
    · exact firstTo_lt h m (by omega)
/-- the least key above one -/
def nextTo (ke : Nat → Nat) (key : Int) : Nat → Nat
  | 0 => 2147483647
  | k + 1 => if key < (ke k : Int) ∧ ke k < nextTo ke key k then ke k else nextTo ke key k
theorem nextTo_s {ke : Nat → Nat} {key : Int} {k : Nat} : nextTo ke key (k + 1) = if key < (ke k : Int) ∧ ke k < nextTo ke key k then ke k else nextTo ke key k := rfl
theorem nextTo_lt {ke : Nat → Nat} {key : Int} {n : Nat} (h : ∀ k, k < n → ke k < 2147483648) : ∀ m, m ≤ n → nextTo ke key m < 2147483648
  | 0, _ => by unfold nextTo; decide
  | m + 1, hm => by
    rw [nextTo_s]
    split
    · exact h m (by omega)
    · exact nextTo_lt h m (by omega)
/-- the r-th key: -1 before all -/
def rankTo (O : OutN) : Nat → Int
  | 0 => -1
  | r + 1 => (nextTo O.ke (rankTo O r) O.sz : Nat)
def mostTo (ke : Nat → Nat) (pr : Nat → Nat) (ca some : Nat) : Nat → Nat
  | 0 => 0
  | k + 1 => if andn (bidsN (ke k)) some = 0 then max (mostTo ke pr ca some k) (prTo pr (bidsN (ke k)) ca) else mostTo ke pr ca some k
theorem mostTo_s {ke pr : Nat → Nat} {ca some k : Nat} : mostTo ke pr ca some (k + 1) = if andn (bidsN (ke k)) some = 0 then max (mostTo ke pr ca some k) (prTo pr (bidsN (ke k)) ca) else mostTo ke pr ca some k := rfl
theorem bidsN_lt (k : Nat) : bidsN k < 1024 := Nat.lt_of_le_of_lt Nat.and_le_right (by decide)
theorem xor_and_le (a b : Nat) : andn a b ≤ a := by
  have h : andn a b &&& a = andn a b := by
    apply Nat.eq_of_testBit_eq
    intro i
    unfold andn
    rw [Nat.testBit_and, Nat.testBit_xor, Nat.testBit_and]
    cases a.testBit i <;> cases b.testBit i <;> rfl
  rw [← h]
  exact Nat.and_le_right
theorem pr_le {S : SaleN} (hS : SaleOK S) (bits : Nat) : prTo S.pr bits S.ca ≤ 990 := by
  have h1 := prTo_le (bits := bits) S.ca (Nat.le_refl _) (fun k hk => (hS.2.2.1 k hk).2.2.2)
  have h2 := hS.1
  omega
theorem mostTo_le {S : SaleN} {ke : Nat → Nat} {some : Nat} (hS : SaleOK S) : ∀ k, mostTo ke S.pr S.ca some k ≤ 990
  | 0 => Nat.zero_le _
  | k + 1 => by
    rw [mostTo_s]
    have h1 := mostTo_le (ke := ke) (some := some) hS k
    have h2 := pr_le hS (bidsN (ke k))
    split
    · omega
    · exact h1
/-- what the keys are: below 2^31 -/
def KeysOK (O : OutN) : Prop := O.sz ≤ 1024 ∧ ∀ k, k < O.sz → O.ke k < 2147483648
theorem rankTo_lt {O : OutN} (h : KeysOK O) (r : Nat) : -1 ≤ rankTo O r ∧ rankTo O r < 2147483648 := by
  cases r with
  | zero => exact ⟨Int.le_refl _, by show (-1 : Int) < 2147483648; decide⟩
  | succ r =>
    have h1 := nextTo_lt (key := rankTo O r) h.2 O.sz (Nat.le_refl _)
    show -1 ≤ ((nextTo O.ke (rankTo O r) O.sz : Nat) : Int) ∧ ((nextTo O.ke (rankTo O r) O.sz : Nat) : Int) < 2147483648
    omega
theorem bX1_bidsIn_0_4 {l : Launch} {E : XE} : Snd l E mX1_bidsIn 0 4 (xs [x_iload 0, x_push (.int (nI 1023))]) := Snd.cons (snd_iload_n (i := 0) dX1_bidsIn_0 rfl) (Snd.cons (snd_sipush (v := nI 1023) dX1_bidsIn_1 (by decide)) Snd.nil)
set_option maxHeartbeats 4000000 in
set_option maxRecDepth 100000 in
theorem m_X1_bidsIn {l : Launch} {E : XE} (key : Nat)  : MetE l E mX1_bidsIn (0) 0 0 [.int (nI (key))] ([]) (fun r w' => r = some (.int (nI (bidsN key))) ∧ w' = []) := by
  refine MetE.of (by decide +kernel) (Nat.le_of_ble_eq_true rfl) ?_
  refine ev_eq (lv' := [(0, .int (nI (key)))]) (st' := []) (w' := []) rfl rfl rfl ?_
  refine ev_b bX1_bidsIn_0_4 (lv' := [(0, .int (nI (key)))]) (st' := [.int (nI (1023)), .int (nI (key))]) (w2 := []) rfl ?_
  refine ev_iand_n dX1_bidsIn_4 ?_
  exact ev_iret dX1_bidsIn_5 rfl (Nat.le_of_ble_eq_true rfl) (Nat.le_refl _) (Nat.le_refl _) ⟨(congrArg (fun t => some (Value.int (nI t))) (show key &&& 1023 = bidsN key from by rfl)), rfl⟩
theorem bX1_worthIn_0_6 {l : Launch} {E : XE} : Snd l E mX1_worthIn 0 6 (xs [x_push (.int (nI 1023)), x_iload 0, x_push (.int (nI 14))]) := Snd.cons (snd_sipush (v := nI 1023) dX1_worthIn_0 (by decide)) (Snd.cons (snd_iload_n (i := 0) dX1_worthIn_3 rfl) (Snd.cons (snd_bipush (v := nI 14) dX1_worthIn_4 (by decide)) Snd.nil))
set_option maxHeartbeats 4000000 in
set_option maxRecDepth 100000 in
theorem m_X1_worthIn {l : Launch} {E : XE} (key : Nat) (hk : key < 2147483648) (h2 : key >>> 14 ≤ 1023) : MetE l E mX1_worthIn (0) 0 0 [.int (nI (key))] ([]) (fun r w' => r = some (.int (nI (worthK key))) ∧ w' = []) := by
  refine MetE.of (by decide +kernel) (Nat.le_of_ble_eq_true rfl) ?_
  refine ev_eq (lv' := [(0, .int (nI (key)))]) (st' := []) (w' := []) rfl rfl rfl ?_
  refine ev_b bX1_worthIn_0_6 (lv' := [(0, .int (nI (key)))]) (st' := [.int (nI (14)), .int (nI (key)), .int (nI (1023))]) (w2 := []) rfl ?_
  refine ev_ishr_n (by omega) (by omega) dX1_worthIn_6 ?_
  refine ev_isub_n (by omega) dX1_worthIn_7 ?_
  exact ev_iret dX1_worthIn_8 rfl (Nat.le_of_ble_eq_true rfl) (Nat.le_refl _) (Nat.le_refl _) ⟨(congrArg (fun t => some (Value.int (nI t))) (show 1023 - (key >>> 14) = worthK key from by rfl)), rfl⟩
theorem bX1_keyOf_0_4 {l : Launch} {E : XE} : Snd l E mX1_keyOf 0 4 (xs [x_push (.int (nI 1023)), x_iload 1]) := Snd.cons (snd_sipush (v := nI 1023) dX1_keyOf_0 (by decide)) (Snd.cons (snd_iload_n (i := 1) dX1_keyOf_3 rfl) Snd.nil)
theorem bX1_keyOf_5_7 {l : Launch} {E : XE} : Snd l E mX1_keyOf 5 7 (xs [x_push (.int (nI 14))]) := Snd.cons (snd_bipush (v := nI 14) dX1_keyOf_5 (by decide)) Snd.nil
theorem bX1_keyOf_8_9 {l : Launch} {E : XE} : Snd l E mX1_keyOf 8 9 (xs [x_iload 0]) := Snd.cons (snd_iload_n (i := 0) dX1_keyOf_8 rfl) Snd.nil
theorem bX1_keyOf_12_14 {l : Launch} {E : XE} : Snd l E mX1_keyOf 12 14 (xs [x_push (.int (nI 10))]) := Snd.cons (snd_bipush (v := nI 10) dX1_keyOf_12 (by decide)) Snd.nil
theorem bX1_keyOf_16_17 {l : Launch} {E : XE} : Snd l E mX1_keyOf 16 17 (xs [x_iload 0]) := Snd.cons (snd_iload_n (i := 0) dX1_keyOf_16 rfl) Snd.nil
set_option maxHeartbeats 4000000 in
set_option maxRecDepth 100000 in
theorem m_X1_keyOf {l : Launch} {E : XE} (bits worth : Nat) (hb : bits < 1024) (hw : worth ≤ 1023) : MetE l E mX1_keyOf (1) 0 0 [.int (nI (bits)), .int (nI (worth))] ([]) (fun r w' => r = some (.int (nI (keyN bits worth))) ∧ w' = []) := by
  refine MetE.of (by decide +kernel) (Nat.le_of_ble_eq_true rfl) ?_
  refine ev_eq (lv' := [(0, .int (nI (bits))), (1, .int (nI (worth)))]) (st' := []) (w' := []) rfl rfl rfl ?_
  refine ev_b bX1_keyOf_0_4 (lv' := [(0, .int (nI (bits))), (1, .int (nI (worth)))]) (st' := [.int (nI (worth)), .int (nI (1023))]) (w2 := []) rfl ?_
  refine ev_isub_n (by omega) dX1_keyOf_4 ?_
  refine ev_b bX1_keyOf_5_7 (lv' := [(0, .int (nI (bits))), (1, .int (nI (worth)))]) (st' := [.int (nI (14)), .int (nI (1023 - worth))]) (w2 := []) rfl ?_
  refine ev_ishl_n (by omega) dX1_keyOf_7 ?_
  refine ev_b bX1_keyOf_8_9 (lv' := [(0, .int (nI (bits))), (1, .int (nI (worth)))]) (st' := [.int (nI (bits)), .int (nI ((1023 - worth) <<< 14))]) (w2 := []) rfl ?_
  refine ev_callS (Yc := mJ6_bitCount_0f7a4) [] dX1_keyOf_9 tw_542 kJ6_bitCount_0f7a4 (m_bitCount bits hb) rfl (st := [.int (nI ((1023 - worth) <<< 14))]) rfl (by decide) rfl (by decide) (Nat.le_of_ble_eq_true rfl) (Nat.le_refl _) (Nat.le_refl _) (fun r w' h => by obtain ⟨-, rfl⟩ := h; exact Nat.le_of_ble_eq_true rfl) ?_
  rintro _ _ ⟨rfl, rfl⟩
  refine ev_eq (lv' := [(0, .int (nI (bits))), (1, .int (nI (worth)))]) (st' := [.int (nI (pop bits)), .int (nI ((1023 - worth) <<< 14))]) (w' := []) rfl rfl rfl ?_
  refine ev_b bX1_keyOf_12_14 (lv' := [(0, .int (nI (bits))), (1, .int (nI (worth)))]) (st' := [.int (nI (10)), .int (nI (pop bits)), .int (nI ((1023 - worth) <<< 14))]) (w2 := []) rfl ?_
  refine ev_ishl_n (by omega) dX1_keyOf_14 ?_
  refine ev_ior_n dX1_keyOf_15 ?_
  refine ev_b bX1_keyOf_16_17 (lv' := [(0, .int (nI (bits))), (1, .int (nI (worth)))]) (st' := [.int (nI (bits)), .int (nI (((1023 - worth) <<< 14) ||| ((pop bits) <<< 10)))]) (w2 := []) rfl ?_
  refine ev_ior_n dX1_keyOf_17 ?_
  exact ev_iret dX1_keyOf_18 rfl (Nat.le_of_ble_eq_true rfl) (Nat.le_refl _) (Nat.le_refl _) ⟨(congrArg (fun t => some (Value.int (nI t))) (show (((1023 - worth) <<< 14) ||| ((pop bits) <<< 10)) ||| bits = keyN bits worth from by rfl)), rfl⟩
theorem bX1_keyAt_0_1 {l : Launch} {E : XE} : Snd l E mX1_keyAt 0 1 (xs [x_iload 1]) := Snd.cons (snd_iload_n (i := 1) dX1_keyAt_0 rfl) Snd.nil
theorem bX1_keyAt_4_9 {l : Launch} {E : XE} : Snd l E mX1_keyAt 4 9 (xs [x_iload 1, x_aload 0, x_get 2 5]) := Snd.cons (snd_iload_n (i := 1) dX1_keyAt_4 rfl) (Snd.cons (snd_aload_n (i := 0) dX1_keyAt_5 rfl) (Snd.cons (snd_get (ci := 2) (k := 5) dX1_keyAt_6 rfl inX1 (by decide) tw_81) Snd.nil))
theorem bX1_keyAt_12_16 {l : Launch} {E : XE} : Snd l E mX1_keyAt 12 16 (xs [x_iload 1, x_push (.int (nI 1024))]) := Snd.cons (snd_iload_n (i := 1) dX1_keyAt_12 rfl) (Snd.cons (snd_sipush (v := nI 1024) dX1_keyAt_13 (by decide)) Snd.nil)
theorem bX1_keyAt_19_24 {l : Launch} {E : XE} : Snd l E mX1_keyAt 19 24 (xs [x_aload 0, x_get 2 3, x_iload 1]) := Snd.cons (snd_aload_n (i := 0) dX1_keyAt_19 rfl) (Snd.cons (snd_get (ci := 2) (k := 3) dX1_keyAt_20 rfl inX1 (by decide) tw_79) (Snd.cons (snd_iload_n (i := 1) dX1_keyAt_23 rfl) Snd.nil))
theorem bX1_keyAt_25_30 {l : Launch} {E : XE} : Snd l E mX1_keyAt 25 30 (xs [x_id]) := Snd.cons (snd_goto (tgt := 30) dX1_keyAt_25 (by decide)) Snd.nil
set_option maxHeartbeats 4000000 in
set_option maxRecDepth 100000 in
theorem m_X1_keyAt {l : Launch} {E : XE} (O : OutN) (k : Nat) (hK : KeysOK O) (hk : k < O.sz) : MetE l E mX1_keyAt (0) 0 0 [.ref 0, .int (nI (k))] (outW 0 O) (fun r w' => r = some (.int (nI (O.ke k))) ∧ w' = outW 0 O) := by
  refine MetE.of (by decide +kernel) (Nat.le_of_ble_eq_true rfl) ?_
  have hsz := hK.1
  refine ev_eq (lv' := [(0, .ref 0), (1, .int (nI (k)))]) (st' := []) (w' := outW 0 O) rfl rfl rfl ?_
  refine ev_b bX1_keyAt_0_1 (lv' := [(0, .ref 0), (1, .int (nI (k)))]) (st' := [.int (nI (k))]) (w2 := outW 0 O) rfl ?_
  refine ev_if_lt_n (tgt := 28) (by omega) dX1_keyAt_1 (by decide) (fun h1 => (by exfalso; omega)) (fun h1 => ?_)
  refine ev_b bX1_keyAt_4_9 (lv' := [(0, .ref 0), (1, .int (nI (k)))]) (st' := [.int (nI (O.sz)), .int (nI (k))]) (w2 := outW 0 O) rfl ?_
  refine ev_icmp_ge_n (tgt := 28) (by omega) (by omega) dX1_keyAt_9 (by decide) (fun h9 => (by exfalso; omega)) (fun h9 => ?_)
  refine ev_b bX1_keyAt_12_16 (lv' := [(0, .ref 0), (1, .int (nI (k)))]) (st' := [.int (nI (1024)), .int (nI (k))]) (w2 := outW 0 O) rfl ?_
  refine ev_icmp_ge_n (tgt := 28) (by omega) (by decide) dX1_keyAt_16 (by decide) (fun h16 => (by exfalso; omega)) (fun h16 => ?_)
  refine ev_b bX1_keyAt_19_24 (lv' := [(0, .ref 0), (1, .int (nI (k)))]) (st' := [.int (nI (k)), .ref 4]) (w2 := outW 0 O) rfl ?_
  refine ev_iald_n (f := O.ke) dX1_keyAt_24 rfl (by omega) (by decide) ?_
  refine ev_b bX1_keyAt_25_30 (lv' := [(0, .ref 0), (1, .int (nI (k)))]) (st' := [.int (nI (O.ke k))]) (w2 := outW 0 O) rfl ?_
  exact ev_iret dX1_keyAt_30 rfl (Nat.le_of_ble_eq_true rfl) (Nat.le_refl _) (Nat.le_refl _) ⟨rfl, rfl⟩
theorem bX1_has_0_2 {l : Launch} {E : XE} : Snd l E mX1_has 0 2 (xs [x_push (.int (nI 0)), x_istore 2]) := Snd.cons (snd_iconst (v := nI 0) dX1_has_0 (by decide)) (Snd.cons (snd_istore_n (i := 2) dX1_has_1 rfl (by decide)) Snd.nil)
theorem bX1_has_2_7 {l : Launch} {E : XE} : Snd l E mX1_has 2 7 (xs [x_iload 2, x_aload 0, x_get 2 5]) := Snd.cons (snd_iload_n (i := 2) dX1_has_2 rfl) (Snd.cons (snd_aload_n (i := 0) dX1_has_3 rfl) (Snd.cons (snd_get (ci := 2) (k := 5) dX1_has_4 rfl inX1 (by decide) tw_81) Snd.nil))
theorem bX1_has_30_31 {l : Launch} {E : XE} : Snd l E mX1_has 30 31 (xs [x_push (.int (nI 0))]) := Snd.cons (snd_iconst (v := nI 0) dX1_has_30 (by decide)) Snd.nil
theorem bX1_has_10_12 {l : Launch} {E : XE} : Snd l E mX1_has 10 12 (xs [x_aload 0, x_iload 2]) := Snd.cons (snd_aload_n (i := 0) dX1_has_10 rfl) (Snd.cons (snd_iload_n (i := 2) dX1_has_11 rfl) Snd.nil)
theorem bX1_has_18_19 {l : Launch} {E : XE} : Snd l E mX1_has 18 19 (xs [x_iload 1]) := Snd.cons (snd_iload_n (i := 1) dX1_has_18 rfl) Snd.nil
theorem bX1_has_27_2 {l : Launch} {E : XE} : Snd l E mX1_has 27 2 (xs [x_id]) := Snd.cons (snd_goto (tgt := 2) dX1_has_27 (by decide)) Snd.nil
theorem bX1_has_22_23 {l : Launch} {E : XE} : Snd l E mX1_has 22 23 (xs [x_push (.int (nI 1))]) := Snd.cons (snd_iconst (v := nI 1) dX1_has_22 (by decide)) Snd.nil
set_option maxHeartbeats 4000000 in
set_option maxRecDepth 100000 in
theorem m_X1_has {l : Launch} {E : XE} (O : OutN) (bits : Nat) (hK : KeysOK O) (hb : bits < 2147483648) : MetE l E mX1_has (1) 0 0 [.ref 0, .int (nI (bits))] (outW 0 O) (fun r w' => r = some (.int (nI (b01 (bits ∈ (List.range O.sz).map (fun k => bidsN (O.ke k)))))) ∧ w' = outW 0 O) := by
  refine MetE.of (by decide +kernel) (Nat.le_of_ble_eq_true rfl) ?_
  have hsz := hK.1
  refine ev_eq (lv' := [(0, .ref 0), (1, .int (nI (bits)))]) (st' := []) (w' := outW 0 O) rfl rfl rfl ?_
  refine ev_b bX1_has_0_2 (lv' := [(2, .int (nI (0))), (0, .ref 0), (1, .int (nI (bits)))]) (st' := []) (w2 := outW 0 O) rfl ?_
  have L2 : ∀ (j_ k : Nat), k + j_ = O.sz → (∀ j, j < k → bidsN (O.ke j) ≠ bits) → Ev l E mX1_has (1) 0 0 (outW 0 O) (fun r w' => r = some (.int (nI (b01 (bits ∈ (List.range O.sz).map (fun k => bidsN (O.ke k)))))) ∧ w' = outW 0 O) 0 0 2 [(2, .int (nI (k))), (0, .ref 0), (1, .int (nI (bits)))] [] (outW 0 O) := by
    intro j_
    induction j_ with
    | zero =>
      intro k hk2  hinv2
      replace hk2 : k = O.sz := hk2
      subst hk2
      have hbl := bidsN_lt (O.ke O.sz)
      refine ev_b bX1_has_2_7 (lv' := [(2, .int (nI (O.sz))), (0, .ref 0), (1, .int (nI (bits)))]) (st' := [.int (nI (O.sz)), .int (nI (O.sz))]) (w2 := outW 0 O) rfl ?_
      refine ev_icmp_ge_n (tgt := 30) (by omega) (by omega) dX1_has_7 (by decide) (fun h7 => ?_) (fun h7 => (by exfalso; omega))
      refine ev_b bX1_has_30_31 (lv' := [(2, .int (nI (O.sz))), (0, .ref 0), (1, .int (nI (bits)))]) (st' := [.int (nI (0))]) (w2 := outW 0 O) rfl ?_
      exact ev_zret dX1_has_31 rfl rfl (Nat.le_of_ble_eq_true rfl) (Nat.le_refl _) (Nat.le_refl _) ⟨(congrArg (fun t => some (Value.int (nI t))) (b01_f (by simp only [List.mem_map, List.mem_range, not_exists, not_and]; exact hinv2)).symm), rfl⟩
    | succ j_ ih2 =>
      intro k hk2  hinv2
      have hlt2 : k < O.sz := by omega
      have hbl := bidsN_lt (O.ke k)
      refine ev_b bX1_has_2_7 (lv' := [(2, .int (nI (k))), (0, .ref 0), (1, .int (nI (bits)))]) (st' := [.int (nI (O.sz)), .int (nI (k))]) (w2 := outW 0 O) rfl ?_
      refine ev_icmp_ge_n (tgt := 30) (by omega) (by omega) dX1_has_7 (by decide) (fun h7 => (by exfalso; omega)) (fun h7 => ?_)
      refine ev_b bX1_has_10_12 (lv' := [(2, .int (nI (k))), (0, .ref 0), (1, .int (nI (bits)))]) (st' := [.int (nI (k)), .ref 0]) (w2 := outW 0 O) rfl ?_
      refine ev_callV (Yc := mX1_keyAt) [0, 1, 2, 3, 4] dX1_has_12 tw_548 kX1_keyAt (m_X1_keyAt O k hK (by omega)) rfl (st := []) rfl rfl rfl (by decide) rfl (by decide) (Nat.le_of_ble_eq_true rfl) (Nat.le_refl _) (Nat.le_refl _) (fun r w' h => by obtain ⟨-, rfl⟩ := h; exact Nat.le_of_ble_eq_true rfl) ?_
      rintro _ _ ⟨rfl, rfl⟩
      refine ev_eq (lv' := [(2, .int (nI (k))), (0, .ref 0), (1, .int (nI (bits)))]) (st' := [.int (nI (O.ke k))]) (w' := outW 0 O) rfl rfl rfl ?_
      refine ev_callS (Yc := mX1_bidsIn) [] dX1_has_15 tw_552 kX1_bidsIn (m_X1_bidsIn (O.ke k)) rfl (st := []) rfl (by decide) rfl (by decide) (Nat.le_of_ble_eq_true rfl) (Nat.le_refl _) (Nat.le_refl _) (fun r w' h => by obtain ⟨-, rfl⟩ := h; exact Nat.le_of_ble_eq_true rfl) ?_
      rintro _ _ ⟨rfl, rfl⟩
      refine ev_eq (lv' := [(2, .int (nI (k))), (0, .ref 0), (1, .int (nI (bits)))]) (st' := [.int (nI (bidsN (O.ke k)))]) (w' := outW 0 O) rfl rfl rfl ?_
      refine ev_b bX1_has_18_19 (lv' := [(2, .int (nI (k))), (0, .ref 0), (1, .int (nI (bits)))]) (st' := [.int (nI (bits)), .int (nI (bidsN (O.ke k)))]) (w2 := outW 0 O) rfl ?_
      refine ev_icmp_ne_n (tgt := 24) (by omega) (by omega) dX1_has_19 (by decide) (fun h19 => ?_) (fun h19 => ?_)
      · skip
        have hnext : ∀ j, j < k + 1 → bidsN (O.ke j) ≠ bits := fun j hj => by
          rcases Nat.lt_succ_iff_lt_or_eq.mp hj with h | h
          · exact hinv2 j h
          · subst h; exact h19
        refine ev_iinc_n (x := k) (v := 1) dX1_has_24 rfl (by decide) ?_
        refine ev_eq (lv' := [(2, .int (nI (k + 1))), (0, .ref 0), (1, .int (nI (bits)))]) rfl rfl rfl ?_
        refine ev_b bX1_has_27_2 (lv' := [(2, .int (nI (k + 1))), (0, .ref 0), (1, .int (nI (bits)))]) (st' := []) (w2 := outW 0 O) rfl ?_
        rw [show nI (k + 1) = nI ((k + 1)) from congrArg nI (by omega)]
        exact ih2 (k + 1) (by omega) hnext
      · skip
        refine ev_b bX1_has_22_23 (lv' := [(2, .int (nI (k))), (0, .ref 0), (1, .int (nI (bits)))]) (st' := [.int (nI (1))]) (w2 := outW 0 O) rfl ?_
        exact ev_zret dX1_has_23 rfl rfl (Nat.le_of_ble_eq_true rfl) (Nat.le_refl _) (Nat.le_refl _) ⟨(congrArg (fun t => some (Value.int (nI t))) (b01_t (by exact List.mem_map.mpr ⟨k, List.mem_range.mpr hlt2, h19⟩)).symm), rfl⟩
  exact L2 O.sz 0 (by omega) (fun j hj => absurd hj (Nat.not_lt_zero j))
theorem bX1_first_0_5 {l : Launch} {E : XE} : Snd l E mX1_first 0 5 (xs [x_push (.int (nI 2147483647)), x_istore 2, x_push (.int (nI 0)), x_istore 3]) := Snd.cons (snd_ldc (v := nI 2147483647) dX1_first_0 tw_547) (Snd.cons (snd_istore_n (i := 2) dX1_first_2 rfl (by decide)) (Snd.cons (snd_iconst (v := nI 0) dX1_first_3 (by decide)) (Snd.cons (snd_istore_n (i := 3) dX1_first_4 rfl (by decide)) Snd.nil)))
theorem bX1_first_5_10 {l : Launch} {E : XE} : Snd l E mX1_first 5 10 (xs [x_iload 3, x_aload 0, x_get 2 5]) := Snd.cons (snd_iload_n (i := 3) dX1_first_5 rfl) (Snd.cons (snd_aload_n (i := 0) dX1_first_6 rfl) (Snd.cons (snd_get (ci := 2) (k := 5) dX1_first_7 rfl inX1 (by decide) tw_81) Snd.nil))
theorem bX1_first_47_48 {l : Launch} {E : XE} : Snd l E mX1_first 47 48 (xs [x_iload 2]) := Snd.cons (snd_iload_n (i := 2) dX1_first_47 rfl) Snd.nil
theorem bX1_first_13_15 {l : Launch} {E : XE} : Snd l E mX1_first 13 15 (xs [x_aload 0, x_iload 3]) := Snd.cons (snd_aload_n (i := 0) dX1_first_13 rfl) (Snd.cons (snd_iload_n (i := 3) dX1_first_14 rfl) Snd.nil)
theorem bX1_first_18_23 {l : Launch} {E : XE} : Snd l E mX1_first 18 23 (xs [x_istore 4, x_iload 4, x_iload 2]) := Snd.cons (snd_istore dX1_first_18 (by decide)) (Snd.cons (snd_iload dX1_first_20) (Snd.cons (snd_iload_n (i := 2) dX1_first_22 rfl) Snd.nil))
theorem bX1_first_44_5 {l : Launch} {E : XE} : Snd l E mX1_first 44 5 (xs [x_id]) := Snd.cons (snd_goto (tgt := 5) dX1_first_44 (by decide)) Snd.nil
theorem bX1_first_26_28 {l : Launch} {E : XE} : Snd l E mX1_first 26 28 (xs [x_iload 4]) := Snd.cons (snd_iload dX1_first_26) Snd.nil
theorem bX1_first_31_34 {l : Launch} {E : XE} : Snd l E mX1_first 31 34 (xs [x_iload 1, x_push (.int (-1)), x_i2 (fun x y => x ^^^ y)]) := Snd.cons (snd_iload_n (i := 1) dX1_first_31 rfl) (Snd.cons (snd_iconst (v := -1) dX1_first_32 (by decide)) (Snd.cons (snd_ixor dX1_first_33) Snd.nil))
theorem bX1_first_38_41 {l : Launch} {E : XE} : Snd l E mX1_first 38 41 (xs [x_iload 4, x_istore 2]) := Snd.cons (snd_iload dX1_first_38) (Snd.cons (snd_istore_n (i := 2) dX1_first_40 rfl (by decide)) Snd.nil)
set_option maxHeartbeats 4000000 in
set_option maxRecDepth 100000 in
theorem m_X1_first {l : Launch} {E : XE} (O : OutN) (sm : Nat) (hK : KeysOK O) : MetE l E mX1_first (1) 0 0 [.ref 0, .int (nI (sm))] (outW 0 O) (fun r w' => r = some (.int (nI (firstTo O.ke sm O.sz))) ∧ w' = outW 0 O) := by
  refine MetE.of (by decide +kernel) (Nat.le_of_ble_eq_true rfl) ?_
  have hsz := hK.1
  refine ev_eq (lv' := [(0, .ref 0), (1, .int (nI (sm)))]) (st' := []) (w' := outW 0 O) rfl rfl rfl ?_
  refine ev_b bX1_first_0_5 (lv' := [(3, .int (nI (0))), (2, .int (nI (2147483647))), (0, .ref 0), (1, .int (nI (sm)))]) (st' := []) (w2 := outW 0 O) rfl ?_
  have L5 : ∀ (j_ k : Nat), k + j_ = O.sz → Ev l E mX1_first (1) 0 0 (outW 0 O) (fun r w' => r = some (.int (nI (firstTo O.ke sm O.sz))) ∧ w' = outW 0 O) 0 0 5 [(3, .int (nI (k))), (2, .int (nI (firstTo O.ke sm k))), (0, .ref 0), (1, .int (nI (sm)))] [] (outW 0 O) := by
    intro j_
    induction j_ with
    | zero =>
      intro k hk5  
      replace hk5 : k = O.sz := hk5
      subst hk5
      have hf := firstTo_lt (some := sm) hK.2 O.sz (by omega)
      refine ev_b bX1_first_5_10 (lv' := [(3, .int (nI (O.sz))), (2, .int (nI (firstTo O.ke sm O.sz))), (0, .ref 0), (1, .int (nI (sm)))]) (st' := [.int (nI (O.sz)), .int (nI (O.sz))]) (w2 := outW 0 O) rfl ?_
      refine ev_icmp_ge_n (tgt := 47) (by omega) (by omega) dX1_first_10 (by decide) (fun h10 => ?_) (fun h10 => (by exfalso; omega))
      refine ev_b bX1_first_47_48 (lv' := [(3, .int (nI (O.sz))), (2, .int (nI (firstTo O.ke sm O.sz))), (0, .ref 0), (1, .int (nI (sm)))]) (st' := [.int (nI (firstTo O.ke sm O.sz))]) (w2 := outW 0 O) rfl ?_
      exact ev_iret dX1_first_48 rfl (Nat.le_of_ble_eq_true rfl) (Nat.le_refl _) (Nat.le_refl _) ⟨rfl, rfl⟩
    | succ j_ ih5 =>
      intro k hk5  
      have hlt5 : k < O.sz := by omega
      have hke := hK.2 k (by omega)
      have hf := firstTo_lt (some := sm) hK.2 k (by omega)
      refine ev_b bX1_first_5_10 (lv' := [(3, .int (nI (k))), (2, .int (nI (firstTo O.ke sm k))), (0, .ref 0), (1, .int (nI (sm)))]) (st' := [.int (nI (O.sz)), .int (nI (k))]) (w2 := outW 0 O) rfl ?_
      refine ev_icmp_ge_n (tgt := 47) (by omega) (by omega) dX1_first_10 (by decide) (fun h10 => (by exfalso; omega)) (fun h10 => ?_)
      refine ev_b bX1_first_13_15 (lv' := [(3, .int (nI (k))), (2, .int (nI (firstTo O.ke sm k))), (0, .ref 0), (1, .int (nI (sm)))]) (st' := [.int (nI (k)), .ref 0]) (w2 := outW 0 O) rfl ?_
      refine ev_callV (Yc := mX1_keyAt) [0, 1, 2, 3, 4] dX1_first_15 tw_548 kX1_keyAt (m_X1_keyAt O k hK (by omega)) rfl (st := []) rfl rfl rfl (by decide) rfl (by decide) (Nat.le_of_ble_eq_true rfl) (Nat.le_refl _) (Nat.le_refl _) (fun r w' h => by obtain ⟨-, rfl⟩ := h; exact Nat.le_of_ble_eq_true rfl) ?_
      rintro _ _ ⟨rfl, rfl⟩
      refine ev_eq (lv' := [(3, .int (nI (k))), (2, .int (nI (firstTo O.ke sm k))), (0, .ref 0), (1, .int (nI (sm)))]) (st' := [.int (nI (O.ke k))]) (w' := outW 0 O) rfl rfl rfl ?_
      refine ev_b bX1_first_18_23 (lv' := [(4, .int (nI (O.ke k))), (3, .int (nI (k))), (2, .int (nI (firstTo O.ke sm k))), (0, .ref 0), (1, .int (nI (sm)))]) (st' := [.int (nI (firstTo O.ke sm k)), .int (nI (O.ke k))]) (w2 := outW 0 O) rfl ?_
      refine ev_icmp_ge_n (tgt := 41) (by omega) (by omega) dX1_first_23 (by decide) (fun h23 => ?_) (fun h23 => ?_)
      · skip
        refine ev_iinc_n (x := k) (v := 1) dX1_first_41 rfl (by decide) ?_
        refine ev_eq (lv' := [(3, .int (nI (k + 1))), (4, .int (nI (O.ke k))), (2, .int (nI (firstTo O.ke sm k))), (0, .ref 0), (1, .int (nI (sm)))]) rfl rfl rfl ?_
        refine ev_b bX1_first_44_5 (lv' := [(3, .int (nI (k + 1))), (4, .int (nI (O.ke k))), (2, .int (nI (firstTo O.ke sm k))), (0, .ref 0), (1, .int (nI (sm)))]) (st' := []) (w2 := outW 0 O) rfl ?_
        refine ev_pick (lv' := [(3, .int (nI (k + 1))), (2, .int (nI (firstTo O.ke sm k))), (0, .ref 0), (1, .int (nI (sm)))]) rfl ?_
        rw [show nI (k + 1) = nI ((k + 1)) from congrArg nI (by omega)]
        rw [show nI (firstTo O.ke sm k) = nI (firstTo O.ke sm (k + 1)) from congrArg nI (by rw [firstTo_s]; first | rw [if_neg (fun z => absurd z.1 (Nat.not_lt.mpr h23))] | rw [if_neg (fun z => h35 z.2)] | rw [if_pos ⟨Nat.not_le.mp h23, h35⟩])]
        exact ih5 (k + 1) (by omega) 
      · skip
        refine ev_b bX1_first_26_28 (lv' := [(4, .int (nI (O.ke k))), (3, .int (nI (k))), (2, .int (nI (firstTo O.ke sm k))), (0, .ref 0), (1, .int (nI (sm)))]) (st' := [.int (nI (O.ke k))]) (w2 := outW 0 O) rfl ?_
        have hbl := bidsN_lt (O.ke k)
        refine ev_callS (Yc := mX1_bidsIn) [] dX1_first_28 tw_552 kX1_bidsIn (m_X1_bidsIn (O.ke k)) rfl (st := []) rfl (by decide) rfl (by decide) (Nat.le_of_ble_eq_true rfl) (Nat.le_refl _) (Nat.le_refl _) (fun r w' h => by obtain ⟨-, rfl⟩ := h; exact Nat.le_of_ble_eq_true rfl) ?_
        rintro _ _ ⟨rfl, rfl⟩
        refine ev_eq (lv' := [(4, .int (nI (O.ke k))), (3, .int (nI (k))), (2, .int (nI (firstTo O.ke sm k))), (0, .ref 0), (1, .int (nI (sm)))]) (st' := [.int (nI (bidsN (O.ke k)))]) (w' := outW 0 O) rfl rfl rfl ?_
        refine ev_b bX1_first_31_34 (lv' := [(4, .int (nI (O.ke k))), (3, .int (nI (k))), (2, .int (nI (firstTo O.ke sm k))), (0, .ref 0), (1, .int (nI (sm)))]) (st' := [.int (nI (sm) ^^^ (-1)), .int (nI (bidsN (O.ke k)))]) (w2 := outW 0 O) rfl ?_
        refine ev_iandn_n dX1_first_34 ?_
        refine ev_if_ne_n (tgt := 41) (by exact Nat.lt_of_le_of_lt (xor_and_le _ _) (Nat.lt_trans (bidsN_lt _) (by decide))) dX1_first_35 (by decide) (fun h35 => ?_) (fun h35 => ?_)
        · skip
          refine ev_iinc_n (x := k) (v := 1) dX1_first_41 rfl (by decide) ?_
          refine ev_eq (lv' := [(3, .int (nI (k + 1))), (4, .int (nI (O.ke k))), (2, .int (nI (firstTo O.ke sm k))), (0, .ref 0), (1, .int (nI (sm)))]) rfl rfl rfl ?_
          refine ev_b bX1_first_44_5 (lv' := [(3, .int (nI (k + 1))), (4, .int (nI (O.ke k))), (2, .int (nI (firstTo O.ke sm k))), (0, .ref 0), (1, .int (nI (sm)))]) (st' := []) (w2 := outW 0 O) rfl ?_
          refine ev_pick (lv' := [(3, .int (nI (k + 1))), (2, .int (nI (firstTo O.ke sm k))), (0, .ref 0), (1, .int (nI (sm)))]) rfl ?_
          rw [show nI (k + 1) = nI ((k + 1)) from congrArg nI (by omega)]
          rw [show nI (firstTo O.ke sm k) = nI (firstTo O.ke sm (k + 1)) from congrArg nI (by rw [firstTo_s]; first | rw [if_neg (fun z => absurd z.1 (Nat.not_lt.mpr h23))] | rw [if_neg (fun z => h35 z.2)] | rw [if_pos ⟨Nat.not_le.mp h23, h35⟩])]
          exact ih5 (k + 1) (by omega) 
        · skip
          refine ev_b bX1_first_38_41 (lv' := [(2, .int (nI (O.ke k))), (4, .int (nI (O.ke k))), (3, .int (nI (k))), (0, .ref 0), (1, .int (nI (sm)))]) (st' := []) (w2 := outW 0 O) rfl ?_
          refine ev_iinc_n (x := k) (v := 1) dX1_first_41 rfl (by decide) ?_
          refine ev_eq (lv' := [(3, .int (nI (k + 1))), (2, .int (nI (O.ke k))), (4, .int (nI (O.ke k))), (0, .ref 0), (1, .int (nI (sm)))]) rfl rfl rfl ?_
          refine ev_b bX1_first_44_5 (lv' := [(3, .int (nI (k + 1))), (2, .int (nI (O.ke k))), (4, .int (nI (O.ke k))), (0, .ref 0), (1, .int (nI (sm)))]) (st' := []) (w2 := outW 0 O) rfl ?_
          refine ev_pick (lv' := [(3, .int (nI (k + 1))), (2, .int (nI (O.ke k))), (0, .ref 0), (1, .int (nI (sm)))]) rfl ?_
          rw [show nI (k + 1) = nI ((k + 1)) from congrArg nI (by omega)]
          rw [show nI (O.ke k) = nI (firstTo O.ke sm (k + 1)) from congrArg nI (by rw [firstTo_s]; first | rw [if_neg (fun z => absurd z.1 (Nat.not_lt.mpr h23))] | rw [if_neg (fun z => h35 z.2)] | rw [if_pos ⟨Nat.not_le.mp h23, h35⟩])]
          exact ih5 (k + 1) (by omega) 
  exact L5 O.sz 0 (by omega) 
theorem bX1_nextAbove_0_5 {l : Launch} {E : XE} : Snd l E mX1_nextAbove 0 5 (xs [x_push (.int (nI 2147483647)), x_istore 2, x_push (.int (nI 0)), x_istore 3]) := Snd.cons (snd_ldc (v := nI 2147483647) dX1_nextAbove_0 tw_547) (Snd.cons (snd_istore_n (i := 2) dX1_nextAbove_2 rfl (by decide)) (Snd.cons (snd_iconst (v := nI 0) dX1_nextAbove_3 (by decide)) (Snd.cons (snd_istore_n (i := 3) dX1_nextAbove_4 rfl (by decide)) Snd.nil)))
theorem bX1_nextAbove_5_10 {l : Launch} {E : XE} : Snd l E mX1_nextAbove 5 10 (xs [x_iload 3, x_aload 0, x_get 2 5]) := Snd.cons (snd_iload_n (i := 3) dX1_nextAbove_5 rfl) (Snd.cons (snd_aload_n (i := 0) dX1_nextAbove_6 rfl) (Snd.cons (snd_get (ci := 2) (k := 5) dX1_nextAbove_7 rfl inX1 (by decide) tw_81) Snd.nil))
theorem bX1_nextAbove_41_42 {l : Launch} {E : XE} : Snd l E mX1_nextAbove 41 42 (xs [x_iload 2]) := Snd.cons (snd_iload_n (i := 2) dX1_nextAbove_41 rfl) Snd.nil
theorem bX1_nextAbove_13_15 {l : Launch} {E : XE} : Snd l E mX1_nextAbove 13 15 (xs [x_aload 0, x_iload 3]) := Snd.cons (snd_aload_n (i := 0) dX1_nextAbove_13 rfl) (Snd.cons (snd_iload_n (i := 3) dX1_nextAbove_14 rfl) Snd.nil)
theorem bX1_nextAbove_18_23 {l : Launch} {E : XE} : Snd l E mX1_nextAbove 18 23 (xs [x_istore 4, x_iload 4, x_iload 1]) := Snd.cons (snd_istore dX1_nextAbove_18 (by decide)) (Snd.cons (snd_iload dX1_nextAbove_20) (Snd.cons (snd_iload_n (i := 1) dX1_nextAbove_22 rfl) Snd.nil))
theorem bX1_nextAbove_38_5 {l : Launch} {E : XE} : Snd l E mX1_nextAbove 38 5 (xs [x_id]) := Snd.cons (snd_goto (tgt := 5) dX1_nextAbove_38 (by decide)) Snd.nil
theorem bX1_nextAbove_26_29 {l : Launch} {E : XE} : Snd l E mX1_nextAbove 26 29 (xs [x_iload 4, x_iload 2]) := Snd.cons (snd_iload dX1_nextAbove_26) (Snd.cons (snd_iload_n (i := 2) dX1_nextAbove_28 rfl) Snd.nil)
theorem bX1_nextAbove_32_35 {l : Launch} {E : XE} : Snd l E mX1_nextAbove 32 35 (xs [x_iload 4, x_istore 2]) := Snd.cons (snd_iload dX1_nextAbove_32) (Snd.cons (snd_istore_n (i := 2) dX1_nextAbove_34 rfl (by decide)) Snd.nil)
set_option maxHeartbeats 4000000 in
set_option maxRecDepth 100000 in
theorem m_X1_nextAbove {l : Launch} {E : XE} (O : OutN) (key : Int) (hK : KeysOK O) (hk : -1 ≤ key ∧ key < 2147483648) : MetE l E mX1_nextAbove (1) 0 0 [.ref 0, .int (zI (key))] (outW 0 O) (fun r w' => r = some (.int (nI (nextTo O.ke key O.sz))) ∧ w' = outW 0 O) := by
  refine MetE.of (by decide +kernel) (Nat.le_of_ble_eq_true rfl) ?_
  have hsz := hK.1
  refine ev_eq (lv' := [(0, .ref 0), (1, .int (zI (key)))]) (st' := []) (w' := outW 0 O) rfl rfl rfl ?_
  refine ev_b bX1_nextAbove_0_5 (lv' := [(3, .int (nI (0))), (2, .int (nI (2147483647))), (0, .ref 0), (1, .int (zI (key)))]) (st' := []) (w2 := outW 0 O) rfl ?_
  have L5 : ∀ (j_ k : Nat), k + j_ = O.sz → Ev l E mX1_nextAbove (1) 0 0 (outW 0 O) (fun r w' => r = some (.int (nI (nextTo O.ke key O.sz))) ∧ w' = outW 0 O) 0 0 5 [(3, .int (nI (k))), (2, .int (nI (nextTo O.ke key k))), (0, .ref 0), (1, .int (zI (key)))] [] (outW 0 O) := by
    intro j_
    induction j_ with
    | zero =>
      intro k hk5  
      replace hk5 : k = O.sz := hk5
      subst hk5
      have hf := nextTo_lt (key := key) hK.2 O.sz (by omega)
      refine ev_b bX1_nextAbove_5_10 (lv' := [(3, .int (nI (O.sz))), (2, .int (nI (nextTo O.ke key O.sz))), (0, .ref 0), (1, .int (zI (key)))]) (st' := [.int (nI (O.sz)), .int (nI (O.sz))]) (w2 := outW 0 O) rfl ?_
      refine ev_icmp_ge_n (tgt := 41) (by omega) (by omega) dX1_nextAbove_10 (by decide) (fun h10 => ?_) (fun h10 => (by exfalso; omega))
      refine ev_b bX1_nextAbove_41_42 (lv' := [(3, .int (nI (O.sz))), (2, .int (nI (nextTo O.ke key O.sz))), (0, .ref 0), (1, .int (zI (key)))]) (st' := [.int (nI (nextTo O.ke key O.sz))]) (w2 := outW 0 O) rfl ?_
      exact ev_iret dX1_nextAbove_42 rfl (Nat.le_of_ble_eq_true rfl) (Nat.le_refl _) (Nat.le_refl _) ⟨rfl, rfl⟩
    | succ j_ ih5 =>
      intro k hk5  
      have hlt5 : k < O.sz := by omega
      have hke := hK.2 k (by omega)
      have hf := nextTo_lt (key := key) hK.2 k (by omega)
      refine ev_b bX1_nextAbove_5_10 (lv' := [(3, .int (nI (k))), (2, .int (nI (nextTo O.ke key k))), (0, .ref 0), (1, .int (zI (key)))]) (st' := [.int (nI (O.sz)), .int (nI (k))]) (w2 := outW 0 O) rfl ?_
      refine ev_icmp_ge_n (tgt := 41) (by omega) (by omega) dX1_nextAbove_10 (by decide) (fun h10 => (by exfalso; omega)) (fun h10 => ?_)
      refine ev_b bX1_nextAbove_13_15 (lv' := [(3, .int (nI (k))), (2, .int (nI (nextTo O.ke key k))), (0, .ref 0), (1, .int (zI (key)))]) (st' := [.int (nI (k)), .ref 0]) (w2 := outW 0 O) rfl ?_
      refine ev_callV (Yc := mX1_keyAt) [0, 1, 2, 3, 4] dX1_nextAbove_15 tw_548 kX1_keyAt (m_X1_keyAt O k hK (by omega)) rfl (st := []) rfl rfl rfl (by decide) rfl (by decide) (Nat.le_of_ble_eq_true rfl) (Nat.le_refl _) (Nat.le_refl _) (fun r w' h => by obtain ⟨-, rfl⟩ := h; exact Nat.le_of_ble_eq_true rfl) ?_
      rintro _ _ ⟨rfl, rfl⟩
      refine ev_eq (lv' := [(3, .int (nI (k))), (2, .int (nI (nextTo O.ke key k))), (0, .ref 0), (1, .int (zI (key)))]) (st' := [.int (nI (O.ke k))]) (w' := outW 0 O) rfl rfl rfl ?_
      refine ev_b bX1_nextAbove_18_23 (lv' := [(4, .int (nI (O.ke k))), (3, .int (nI (k))), (2, .int (nI (nextTo O.ke key k))), (0, .ref 0), (1, .int (zI (key)))]) (st' := [.int (zI (key)), .int (nI (O.ke k))]) (w2 := outW 0 O) rfl ?_
      refine ev_top2 (y := zI (((O.ke k : Nat) : Int))) (zI_nat _).symm ?_
      refine ev_icmp_le_z (tgt := 35) (by constructor <;> omega) (by constructor <;> omega) dX1_nextAbove_23 (by decide) (fun h23 => ?_) (fun h23 => ?_)
      · skip
        refine ev_iinc_n (x := k) (v := 1) dX1_nextAbove_35 rfl (by decide) ?_
        refine ev_eq (lv' := [(3, .int (nI (k + 1))), (4, .int (nI (O.ke k))), (2, .int (nI (nextTo O.ke key k))), (0, .ref 0), (1, .int (zI (key)))]) rfl rfl rfl ?_
        refine ev_b bX1_nextAbove_38_5 (lv' := [(3, .int (nI (k + 1))), (4, .int (nI (O.ke k))), (2, .int (nI (nextTo O.ke key k))), (0, .ref 0), (1, .int (zI (key)))]) (st' := []) (w2 := outW 0 O) rfl ?_
        refine ev_pick (lv' := [(3, .int (nI (k + 1))), (2, .int (nI (nextTo O.ke key k))), (0, .ref 0), (1, .int (zI (key)))]) rfl ?_
        rw [show nI (k + 1) = nI ((k + 1)) from congrArg nI (by omega)]
        rw [show nI (nextTo O.ke key k) = nI (nextTo O.ke key (k + 1)) from congrArg nI (by rw [nextTo_s]; first | rw [if_neg (fun z => absurd z.1 (Int.not_lt.mpr h23))] | rw [if_neg (fun z => absurd z.2 (Nat.not_lt.mpr h29))] | rw [if_pos ⟨Int.not_le.mp h23, Nat.not_le.mp h29⟩])]
        exact ih5 (k + 1) (by omega) 
      · skip
        refine ev_b bX1_nextAbove_26_29 (lv' := [(4, .int (nI (O.ke k))), (3, .int (nI (k))), (2, .int (nI (nextTo O.ke key k))), (0, .ref 0), (1, .int (zI (key)))]) (st' := [.int (nI (nextTo O.ke key k)), .int (nI (O.ke k))]) (w2 := outW 0 O) rfl ?_
        refine ev_icmp_ge_n (tgt := 35) (by omega) (by omega) dX1_nextAbove_29 (by decide) (fun h29 => ?_) (fun h29 => ?_)
        · skip
          refine ev_iinc_n (x := k) (v := 1) dX1_nextAbove_35 rfl (by decide) ?_
          refine ev_eq (lv' := [(3, .int (nI (k + 1))), (4, .int (nI (O.ke k))), (2, .int (nI (nextTo O.ke key k))), (0, .ref 0), (1, .int (zI (key)))]) rfl rfl rfl ?_
          refine ev_b bX1_nextAbove_38_5 (lv' := [(3, .int (nI (k + 1))), (4, .int (nI (O.ke k))), (2, .int (nI (nextTo O.ke key k))), (0, .ref 0), (1, .int (zI (key)))]) (st' := []) (w2 := outW 0 O) rfl ?_
          refine ev_pick (lv' := [(3, .int (nI (k + 1))), (2, .int (nI (nextTo O.ke key k))), (0, .ref 0), (1, .int (zI (key)))]) rfl ?_
          rw [show nI (k + 1) = nI ((k + 1)) from congrArg nI (by omega)]
          rw [show nI (nextTo O.ke key k) = nI (nextTo O.ke key (k + 1)) from congrArg nI (by rw [nextTo_s]; first | rw [if_neg (fun z => absurd z.1 (Int.not_lt.mpr h23))] | rw [if_neg (fun z => absurd z.2 (Nat.not_lt.mpr h29))] | rw [if_pos ⟨Int.not_le.mp h23, Nat.not_le.mp h29⟩])]
          exact ih5 (k + 1) (by omega) 
        · skip
          refine ev_b bX1_nextAbove_32_35 (lv' := [(2, .int (nI (O.ke k))), (4, .int (nI (O.ke k))), (3, .int (nI (k))), (0, .ref 0), (1, .int (zI (key)))]) (st' := []) (w2 := outW 0 O) rfl ?_
          refine ev_iinc_n (x := k) (v := 1) dX1_nextAbove_35 rfl (by decide) ?_
          refine ev_eq (lv' := [(3, .int (nI (k + 1))), (2, .int (nI (O.ke k))), (4, .int (nI (O.ke k))), (0, .ref 0), (1, .int (zI (key)))]) rfl rfl rfl ?_
          refine ev_b bX1_nextAbove_38_5 (lv' := [(3, .int (nI (k + 1))), (2, .int (nI (O.ke k))), (4, .int (nI (O.ke k))), (0, .ref 0), (1, .int (zI (key)))]) (st' := []) (w2 := outW 0 O) rfl ?_
          refine ev_pick (lv' := [(3, .int (nI (k + 1))), (2, .int (nI (O.ke k))), (0, .ref 0), (1, .int (zI (key)))]) rfl ?_
          rw [show nI (k + 1) = nI ((k + 1)) from congrArg nI (by omega)]
          rw [show nI (O.ke k) = nI (nextTo O.ke key (k + 1)) from congrArg nI (by rw [nextTo_s]; first | rw [if_neg (fun z => absurd z.1 (Int.not_lt.mpr h23))] | rw [if_neg (fun z => absurd z.2 (Nat.not_lt.mpr h29))] | rw [if_pos ⟨Int.not_le.mp h23, Nat.not_le.mp h29⟩])]
          exact ih5 (k + 1) (by omega) 
  exact L5 O.sz 0 (by omega) 
theorem hw_Out0_Sale5__0 {x0 : OutN} {x1 : SaleN} : ([0, 1, 2, 3, 4] : List Nat).map (fun i => (outW 0 x0 ++ saleW 5 x1)[i]?) = (outW 0 x0).map (fun e => some (xr ([0, 1, 2, 3, 4] : List Nat) (outW 0 x0 ++ saleW 5 x1).length e)) := rfl
theorem xp_Out0_Sale5__0 {x0 : OutN} {x1 : SaleN} {y0 : OutN} : xput ([0, 1, 2, 3, 4] : List Nat) (outW 0 x0 ++ saleW 5 x1).length (outW 0 x0 ++ saleW 5 x1) ([0, 1, 2, 3, 4] : List Nat) (outW 0 y0) = outW 0 y0 ++ saleW 5 x1 := by
  have e0 : xput ([0, 1, 2, 3, 4] : List Nat) (outW 0 x0 ++ saleW 5 x1).length (outW 0 x0 ++ saleW 5 x1) ([0, 1, 2, 3, 4] : List Nat) (outW 0 y0) = outW 0 y0 ++ saleW 5 x1 := xput_blk ([]) (outW 0 x0) (saleW 5 x1) (outW 0 y0) rfl
  exact e0
theorem hw_Out0_Sale5__5 {x0 : OutN} {x1 : SaleN} : ([5, 6, 7, 8, 9, 10, 11, 12] : List Nat).map (fun i => (outW 0 x0 ++ saleW 5 x1)[i]?) = (saleW 0 x1).map (fun e => some (xr ([5, 6, 7, 8, 9, 10, 11, 12] : List Nat) (outW 0 x0 ++ saleW 5 x1).length e)) := rfl
theorem xp_Out0_Sale5__5 {x0 : OutN} {x1 : SaleN} {y0 : SaleN} : xput ([5, 6, 7, 8, 9, 10, 11, 12] : List Nat) (outW 0 x0 ++ saleW 5 x1).length (outW 0 x0 ++ saleW 5 x1) ([5, 6, 7, 8, 9, 10, 11, 12] : List Nat) (saleW 0 y0) = outW 0 x0 ++ saleW 5 y0 := by
  have e0 : xput ([5, 6, 7, 8, 9, 10, 11, 12] : List Nat) (outW 0 x0 ++ saleW 5 x1).length (outW 0 x0 ++ saleW 5 x1) ([5, 6, 7, 8, 9, 10, 11, 12] : List Nat) (saleW 0 y0) = outW 0 x0 ++ saleW 5 y0 := xput_blk (outW 0 x0) (saleW 5 x1) ([]) (saleW 0 y0) rfl
  exact e0
theorem bX1_mostPrices_0_5 {l : Launch} {E : XE} : Snd l E mX1_mostPrices 0 5 (xs [x_push (.int (nI 0)), x_istore 3, x_push (.int (nI 0)), x_istore 4]) := Snd.cons (snd_iconst (v := nI 0) dX1_mostPrices_0 (by decide)) (Snd.cons (snd_istore_n (i := 3) dX1_mostPrices_1 rfl (by decide)) (Snd.cons (snd_iconst (v := nI 0) dX1_mostPrices_2 (by decide)) (Snd.cons (snd_istore dX1_mostPrices_3 (by decide)) Snd.nil)))
theorem bX1_mostPrices_5_11 {l : Launch} {E : XE} : Snd l E mX1_mostPrices 5 11 (xs [x_iload 4, x_aload 0, x_get 2 5]) := Snd.cons (snd_iload dX1_mostPrices_5) (Snd.cons (snd_aload_n (i := 0) dX1_mostPrices_7 rfl) (Snd.cons (snd_get (ci := 2) (k := 5) dX1_mostPrices_8 rfl inX1 (by decide) tw_81) Snd.nil))
theorem bX1_mostPrices_51_52 {l : Launch} {E : XE} : Snd l E mX1_mostPrices 51 52 (xs [x_iload 3]) := Snd.cons (snd_iload_n (i := 3) dX1_mostPrices_51 rfl) Snd.nil
theorem bX1_mostPrices_14_17 {l : Launch} {E : XE} : Snd l E mX1_mostPrices 14 17 (xs [x_aload 0, x_iload 4]) := Snd.cons (snd_aload_n (i := 0) dX1_mostPrices_14 rfl) (Snd.cons (snd_iload dX1_mostPrices_15) Snd.nil)
theorem bX1_mostPrices_23_30 {l : Launch} {E : XE} : Snd l E mX1_mostPrices 23 30 (xs [x_istore 5, x_iload 5, x_iload 2, x_push (.int (-1)), x_i2 (fun x y => x ^^^ y)]) := Snd.cons (snd_istore dX1_mostPrices_23 (by decide)) (Snd.cons (snd_iload dX1_mostPrices_25) (Snd.cons (snd_iload_n (i := 2) dX1_mostPrices_27 rfl) (Snd.cons (snd_iconst (v := -1) dX1_mostPrices_28 (by decide)) (Snd.cons (snd_ixor dX1_mostPrices_29) Snd.nil))))
theorem bX1_mostPrices_48_5 {l : Launch} {E : XE} : Snd l E mX1_mostPrices 48 5 (xs [x_id]) := Snd.cons (snd_goto (tgt := 5) dX1_mostPrices_48 (by decide)) Snd.nil
theorem bX1_mostPrices_34_38 {l : Launch} {E : XE} : Snd l E mX1_mostPrices 34 38 (xs [x_iload 3, x_aload 1, x_iload 5]) := Snd.cons (snd_iload_n (i := 3) dX1_mostPrices_34 rfl) (Snd.cons (snd_aload_n (i := 1) dX1_mostPrices_35 rfl) (Snd.cons (snd_iload dX1_mostPrices_36) Snd.nil))
theorem bX1_mostPrices_44_45 {l : Launch} {E : XE} : Snd l E mX1_mostPrices 44 45 (xs [x_istore 3]) := Snd.cons (snd_istore_n (i := 3) dX1_mostPrices_44 rfl (by decide)) Snd.nil
set_option maxHeartbeats 4000000 in
set_option maxRecDepth 100000 in
theorem m_X1_mostPrices {l : Launch} {E : XE} (O : OutN) (S : SaleN) (sm : Nat) (hK : KeysOK O) (hS : SaleOK S) : MetE l E mX1_mostPrices (1) 0 0 [.ref 0, .ref 5, .int (nI (sm))] (outW 0 O ++ saleW 5 S) (fun r w' => r = some (.int (nI (mostTo O.ke S.pr S.ca sm O.sz))) ∧ w' = outW 0 O ++ saleW 5 S) := by
  refine MetE.of (by decide +kernel) (Nat.le_of_ble_eq_true rfl) ?_
  have hsz := hK.1
  refine ev_eq (lv' := [(0, .ref 0), (1, .ref 5), (2, .int (nI (sm)))]) (st' := []) (w' := outW 0 O ++ saleW 5 S) rfl rfl rfl ?_
  refine ev_b bX1_mostPrices_0_5 (lv' := [(4, .int (nI (0))), (3, .int (nI (0))), (0, .ref 0), (1, .ref 5), (2, .int (nI (sm)))]) (st' := []) (w2 := outW 0 O ++ saleW 5 S) rfl ?_
  have L5 : ∀ (j_ k : Nat), k + j_ = O.sz → Ev l E mX1_mostPrices (1) 0 0 (outW 0 O ++ saleW 5 S) (fun r w' => r = some (.int (nI (mostTo O.ke S.pr S.ca sm O.sz))) ∧ w' = outW 0 O ++ saleW 5 S) 0 0 5 [(4, .int (nI (k))), (3, .int (nI (mostTo O.ke S.pr S.ca sm k))), (0, .ref 0), (1, .ref 5), (2, .int (nI (sm)))] [] (outW 0 O ++ saleW 5 S) := by
    intro j_
    induction j_ with
    | zero =>
      intro k hk5  
      replace hk5 : k = O.sz := hk5
      subst hk5
      have hbl := bidsN_lt (O.ke O.sz)
      have hm := mostTo_le (ke := O.ke) (some := sm) hS O.sz
      have hp := pr_le hS (bidsN (O.ke O.sz))
      refine ev_b bX1_mostPrices_5_11 (lv' := [(4, .int (nI (O.sz))), (3, .int (nI (mostTo O.ke S.pr S.ca sm O.sz))), (0, .ref 0), (1, .ref 5), (2, .int (nI (sm)))]) (st' := [.int (nI (O.sz)), .int (nI (O.sz))]) (w2 := outW 0 O ++ saleW 5 S) rfl ?_
      refine ev_icmp_ge_n (tgt := 51) (by omega) (by omega) dX1_mostPrices_11 (by decide) (fun h11 => ?_) (fun h11 => (by exfalso; omega))
      refine ev_b bX1_mostPrices_51_52 (lv' := [(4, .int (nI (O.sz))), (3, .int (nI (mostTo O.ke S.pr S.ca sm O.sz))), (0, .ref 0), (1, .ref 5), (2, .int (nI (sm)))]) (st' := [.int (nI (mostTo O.ke S.pr S.ca sm O.sz))]) (w2 := outW 0 O ++ saleW 5 S) rfl ?_
      exact ev_iret dX1_mostPrices_52 rfl (Nat.le_of_ble_eq_true rfl) (Nat.le_refl _) (Nat.le_refl _) ⟨rfl, rfl⟩
    | succ j_ ih5 =>
      intro k hk5  
      have hlt5 : k < O.sz := by omega
      have hbl := bidsN_lt (O.ke k)
      have hm := mostTo_le (ke := O.ke) (some := sm) hS k
      have hp := pr_le hS (bidsN (O.ke k))
      refine ev_b bX1_mostPrices_5_11 (lv' := [(4, .int (nI (k))), (3, .int (nI (mostTo O.ke S.pr S.ca sm k))), (0, .ref 0), (1, .ref 5), (2, .int (nI (sm)))]) (st' := [.int (nI (O.sz)), .int (nI (k))]) (w2 := outW 0 O ++ saleW 5 S) rfl ?_
      refine ev_icmp_ge_n (tgt := 51) (by omega) (by omega) dX1_mostPrices_11 (by decide) (fun h11 => (by exfalso; omega)) (fun h11 => ?_)
      refine ev_b bX1_mostPrices_14_17 (lv' := [(4, .int (nI (k))), (3, .int (nI (mostTo O.ke S.pr S.ca sm k))), (0, .ref 0), (1, .ref 5), (2, .int (nI (sm)))]) (st' := [.int (nI (k)), .ref 0]) (w2 := outW 0 O ++ saleW 5 S) rfl ?_
      refine ev_callV (Yc := mX1_keyAt) [0, 1, 2, 3, 4] dX1_mostPrices_17 tw_548 kX1_keyAt (m_X1_keyAt O k hK (by omega)) rfl (st := []) rfl rfl rfl (by decide) hw_Out0_Sale5__0 (by decide) (Nat.le_of_ble_eq_true rfl) (Nat.le_refl _) (Nat.le_refl _) (fun r w' h => by obtain ⟨-, rfl⟩ := h; exact Nat.le_of_ble_eq_true rfl) ?_
      rintro _ _ ⟨rfl, rfl⟩
      refine ev_eq (lv' := [(4, .int (nI (k))), (3, .int (nI (mostTo O.ke S.pr S.ca sm k))), (0, .ref 0), (1, .ref 5), (2, .int (nI (sm)))]) (st' := [.int (nI (O.ke k))]) (w' := outW 0 O ++ saleW 5 S) rfl rfl xp_Out0_Sale5__0 ?_
      refine ev_callS (Yc := mX1_bidsIn) [] dX1_mostPrices_20 tw_552 kX1_bidsIn (m_X1_bidsIn (O.ke k)) rfl (st := []) rfl (by decide) rfl (by decide) (Nat.le_of_ble_eq_true rfl) (Nat.le_refl _) (Nat.le_refl _) (fun r w' h => by obtain ⟨-, rfl⟩ := h; exact Nat.le_of_ble_eq_true rfl) ?_
      rintro _ _ ⟨rfl, rfl⟩
      refine ev_eq (lv' := [(4, .int (nI (k))), (3, .int (nI (mostTo O.ke S.pr S.ca sm k))), (0, .ref 0), (1, .ref 5), (2, .int (nI (sm)))]) (st' := [.int (nI (bidsN (O.ke k)))]) (w' := outW 0 O ++ saleW 5 S) rfl rfl rfl ?_
      refine ev_b bX1_mostPrices_23_30 (lv' := [(5, .int (nI (bidsN (O.ke k)))), (4, .int (nI (k))), (3, .int (nI (mostTo O.ke S.pr S.ca sm k))), (0, .ref 0), (1, .ref 5), (2, .int (nI (sm)))]) (st' := [.int (nI (sm) ^^^ (-1)), .int (nI (bidsN (O.ke k)))]) (w2 := outW 0 O ++ saleW 5 S) rfl ?_
      refine ev_iandn_n dX1_mostPrices_30 ?_
      refine ev_if_ne_n (tgt := 45) (by exact Nat.lt_of_le_of_lt (xor_and_le _ _) (Nat.lt_trans (bidsN_lt _) (by decide))) dX1_mostPrices_31 (by decide) (fun h31 => ?_) (fun h31 => ?_)
      · skip
        refine ev_iinc_n (x := k) (v := 1) dX1_mostPrices_45 rfl (by decide) ?_
        refine ev_eq (lv' := [(4, .int (nI (k + 1))), (5, .int (nI (bidsN (O.ke k)))), (3, .int (nI (mostTo O.ke S.pr S.ca sm k))), (0, .ref 0), (1, .ref 5), (2, .int (nI (sm)))]) rfl rfl rfl ?_
        refine ev_b bX1_mostPrices_48_5 (lv' := [(4, .int (nI (k + 1))), (5, .int (nI (bidsN (O.ke k)))), (3, .int (nI (mostTo O.ke S.pr S.ca sm k))), (0, .ref 0), (1, .ref 5), (2, .int (nI (sm)))]) (st' := []) (w2 := outW 0 O ++ saleW 5 S) rfl ?_
        refine ev_pick (lv' := [(4, .int (nI (k + 1))), (3, .int (nI (mostTo O.ke S.pr S.ca sm k))), (0, .ref 0), (1, .ref 5), (2, .int (nI (sm)))]) rfl ?_
        rw [show nI (k + 1) = nI ((k + 1)) from congrArg nI (by omega)]
        rw [show nI (mostTo O.ke S.pr S.ca sm k) = nI (mostTo O.ke S.pr S.ca sm (k + 1)) from congrArg nI (by rw [mostTo_s]; first | rw [if_neg h31] | rw [if_pos h31])]
        exact ih5 (k + 1) (by omega) 
      · skip
        refine ev_b bX1_mostPrices_34_38 (lv' := [(5, .int (nI (bidsN (O.ke k)))), (4, .int (nI (k))), (3, .int (nI (mostTo O.ke S.pr S.ca sm k))), (0, .ref 0), (1, .ref 5), (2, .int (nI (sm)))]) (st' := [.int (nI (bidsN (O.ke k))), .ref 5, .int (nI (mostTo O.ke S.pr S.ca sm k))]) (w2 := outW 0 O ++ saleW 5 S) rfl ?_
        refine ev_callVN (Yc := mX3_pricesOf) [5, 6, 7, 8, 9, 10, 11, 12] dX1_mostPrices_38 tn_773 kX3_pricesOf (m_X3_pricesOf S (bidsN (O.ke k)) hS (by omega)) rfl (st := [.int (nI (mostTo O.ke S.pr S.ca sm k))]) rfl rfl rfl (by decide) hw_Out0_Sale5__5 (by decide) (Nat.le_of_ble_eq_true rfl) (Nat.le_refl _) (Nat.le_refl _) (fun r w' h => by obtain ⟨-, rfl⟩ := h; exact Nat.le_of_ble_eq_true rfl) ?_
        rintro _ _ ⟨rfl, rfl⟩
        refine ev_eq (lv' := [(5, .int (nI (bidsN (O.ke k)))), (4, .int (nI (k))), (3, .int (nI (mostTo O.ke S.pr S.ca sm k))), (0, .ref 0), (1, .ref 5), (2, .int (nI (sm)))]) (st' := [.int (nI (prTo S.pr (bidsN (O.ke k)) S.ca)), .int (nI (mostTo O.ke S.pr S.ca sm k))]) (w' := outW 0 O ++ saleW 5 S) rfl rfl xp_Out0_Sale5__5 ?_
        refine ev_max dX1_mostPrices_41 tw_774 tw_655 tw_15 tw_656 (by decide) (Nat.le_of_ble_eq_true rfl) (Nat.le_refl _) (Nat.le_refl _) ?_
        refine ev_top (n_max (by omega) (by omega)) ?_
        refine ev_b bX1_mostPrices_44_45 (lv' := [(3, .int (nI (max (mostTo O.ke S.pr S.ca sm k) (prTo S.pr (bidsN (O.ke k)) S.ca)))), (5, .int (nI (bidsN (O.ke k)))), (4, .int (nI (k))), (0, .ref 0), (1, .ref 5), (2, .int (nI (sm)))]) (st' := []) (w2 := outW 0 O ++ saleW 5 S) rfl ?_
        refine ev_iinc_n (x := k) (v := 1) dX1_mostPrices_45 rfl (by decide) ?_
        refine ev_eq (lv' := [(4, .int (nI (k + 1))), (3, .int (nI (max (mostTo O.ke S.pr S.ca sm k) (prTo S.pr (bidsN (O.ke k)) S.ca)))), (5, .int (nI (bidsN (O.ke k)))), (0, .ref 0), (1, .ref 5), (2, .int (nI (sm)))]) rfl rfl rfl ?_
        refine ev_b bX1_mostPrices_48_5 (lv' := [(4, .int (nI (k + 1))), (3, .int (nI (max (mostTo O.ke S.pr S.ca sm k) (prTo S.pr (bidsN (O.ke k)) S.ca)))), (5, .int (nI (bidsN (O.ke k)))), (0, .ref 0), (1, .ref 5), (2, .int (nI (sm)))]) (st' := []) (w2 := outW 0 O ++ saleW 5 S) rfl ?_
        refine ev_pick (lv' := [(4, .int (nI (k + 1))), (3, .int (nI (max (mostTo O.ke S.pr S.ca sm k) (prTo S.pr (bidsN (O.ke k)) S.ca)))), (0, .ref 0), (1, .ref 5), (2, .int (nI (sm)))]) rfl ?_
        rw [show nI (k + 1) = nI ((k + 1)) from congrArg nI (by omega)]
        rw [show nI (max (mostTo O.ke S.pr S.ca sm k) (prTo S.pr (bidsN (O.ke k)) S.ca)) = nI (mostTo O.ke S.pr S.ca sm (k + 1)) from congrArg nI (by rw [mostTo_s]; first | rw [if_neg h31] | rw [if_pos h31])]
        exact ih5 (k + 1) (by omega) 
  exact L5 O.sz 0 (by omega) 
