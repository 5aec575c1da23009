/-! ===== public methods, sixth part ===== -/
theorem fold_L {α : Type} {O : OutN} {K : List Nat} {F : α → Nat → α} {a : α} {t : Nat → α} (h0 : t 0 = a) (hs : ∀ k, t (k + 1) = F (t k) (O.ke k)) (h : KeysL O K) : t O.sz = K.foldl F a := by
  have key : ∀ n, n ≤ K.length → t n = (K.take n).foldl F a := by
    intro n
    induction n with
    | zero => intro _; exact h0
    | succ n ih =>
      intro hn
      have h1 : K[n]? = some K[n] := List.getElem?_eq_getElem hn
      rw [hs, ih (by omega), take_get h1, h.2 n _ h1, List.foldl_append]
      rfl
  rw [h.1, key _ (Nat.le_refl _), List.take_length]
def mostLs (K : List Nat) (pr : Nat → Nat) (ca sm : Nat) : Nat := K.foldl (fun m k => if andn (bidsN k) sm = 0 then max m (prTo pr (bidsN k) ca) else m) 0
theorem most_L {O : OutN} {K : List Nat} (h : KeysL O K) (pr : Nat → Nat) (ca sm : Nat) : mostTo O.ke pr ca sm O.sz = mostLs K pr ca sm := fold_L (t := mostTo O.ke pr ca sm) rfl (fun _ => rfl) h
def nextLs (K : List Nat) (key : Int) : Nat := K.foldl (fun (b k : Nat) => if key < (k : Int) ∧ k < b then k else b) 2147483647
theorem next_L {O : OutN} {K : List Nat} (h : KeysL O K) (key : Int) : nextTo O.ke key O.sz = nextLs K key := fold_L (t := nextTo O.ke key) rfl (fun _ => rfl) h
def rankLs (K : List Nat) : Nat → Int
  | 0 => -1
  | r + 1 => (nextLs K (rankLs K r) : Nat)
theorem rank_L {O : OutN} {K : List Nat} (h : KeysL O K) : ∀ r, rankTo O r = rankLs K r
  | 0 => rfl
  | r + 1 => by
    show ((nextTo O.ke (rankTo O r) O.sz : Nat) : Int) = ((nextLs K (rankLs K r) : Nat) : Int)
    rw [rank_L h r, next_L h]
def fwZ (tl : Nat → Nat) (f : Nat → Int) : Nat → Nat → Int
  | 0, _ => -9
  | n + 1, k => if ((tl k : Nat) : Int) = f k then fwZ tl f n (k + 1) else (k : Int)
theorem fw_step {tl : Nat → Nat} {f : Nat → Int} {c k : Nat} (h : fwZ tl f c 0 = fwZ tl f (c - k) k) (hk : k < c) : fwZ tl f c 0 = if ((tl k : Nat) : Int) = f k then fwZ tl f (c - (k + 1)) (k + 1) else (k : Int) := by
  rw [h, show c - k = (c - (k + 1)) + 1 by omega]
  rfl
theorem paid_b {S : SaleN} (hS : SaleOK S) : BndZ (paidZ S) := fun k hk => by
  have h1 := paid_bnd hS hk
  have h2 := wonZ_bnd hS k
  omega
theorem it_b {S : SaleN} {n : Nat} (hS : SaleOK S) (hn : LiftsTo S n) : BndZ (itS S n) := fun k hk => by
  have h1 := it_bnd hS n hn.2.1 k hk
  have h2 := wonZ_bnd hS k
  omega
theorem lfBB {S : SaleN} (hS : SaleOK S) {n : Nat} {f h : Nat → Int} (hf : BndZ f) : BillB (lfB S h n) f := by
  have h0 := bill_ok hS (n := 0) (m := n) (h := h) (fun i hi => absurd hi (Nat.not_lt_zero i))
  exact ⟨h0.1, hf, h0.2.2.1, h0.2.2.2⟩
theorem blk_conv {S : SaleN} {f h : Nat → Int} {n : Nat} : (blkTo (lfB S h n) f 32).2 = (blkS S f).2 := by
  unfold blkS
  rw [blk_congB (g := 0)]

theorem bX6_rival_81_92 {l : Launch} {E : XE} : Snd l E mX6_rival 81 92 (xs [x_push (.int (nI 0)), x_aload 0, x_get 7 0, x_iload 3, x_aload 0, x_aload 0, x_get 7 0]) := Snd.cons (snd_iconst (v := nI 0) dX6_rival_81 (by decide)) (Snd.cons (snd_aload_n (i := 0) dX6_rival_82 rfl) (Snd.cons (snd_get (ci := 7) (k := 0) dX6_rival_83 rfl inX6 (by decide) tw_207) (Snd.cons (snd_iload_n (i := 3) dX6_rival_86 rfl) (Snd.cons (snd_aload_n (i := 0) dX6_rival_87 rfl) (Snd.cons (snd_aload_n (i := 0) dX6_rival_88 rfl) (Snd.cons (snd_get (ci := 7) (k := 0) dX6_rival_89 rfl inX6 (by decide) tw_207) Snd.nil))))))
theorem bX6_rival_99_104 {l : Launch} {E : XE} : Snd l E mX6_rival 99 104 (xs [x_aload 0, x_get 7 0, x_iload 1]) := Snd.cons (snd_aload_n (i := 0) dX6_rival_99 rfl) (Snd.cons (snd_get (ci := 7) (k := 0) dX6_rival_100 rfl inX6 (by decide) tw_207) (Snd.cons (snd_iload_n (i := 1) dX6_rival_103 rfl) Snd.nil))
set_option maxHeartbeats 4000000 in
set_option maxRecDepth 100000 in
theorem p_rival_w2 {l : Launch} {E : XE} (T : TopN) (S P U : SaleN) (O : OutN) (B : BillN) (Q : SeaN) (C : ScrN) (R : PrtN) (tl rf : Nat → Nat) (k : Nat) (hS : SaleOK S) (hQ : Q.fd < 2147483648) (hk : k < S.ca) : MetE l E mX6_rival (5) 0 0 [.ref 0, .int (nI (k)), .int (nI (2))] (compW T S P U O B Q C R tl rf) (CP T S P (C.lt) (C.sz) tl rf (some (.int (zI (max 0 (((prTo S.pr ((andn (hdTo S.st (S.st k) S.ca &&& S.ac) (1 <<< k)) &&& winB S 1023) S.ca : Nat) : Int) - ((S.pr k : Nat) : Int))))))) := by
  refine MetE.of (by decide +kernel) (Nat.le_of_ble_eq_true rfl) ?_
  have hca := hS.1
  have hpw := pow_ca hS
  have hac := ac_lt hS
  have hst := (hS.2.2.1 k hk).2.2.1
  have hprk := (hS.2.2.1 k hk).2.2.2
  have h1k : 1 <<< k < 2147483648 := Nat.lt_of_lt_of_le (shl_lt (show k < 31 by omega)) (by decide)
  have hrv : (andn (hdTo S.st (S.st k) S.ca &&& S.ac) (1 <<< k)) ≤ S.ac := Nat.le_trans (andn_le _ _) Nat.and_le_right
  have hpl := pr_le hS ((andn (hdTo S.st (S.st k) S.ca &&& S.ac) (1 <<< k)) &&& winB S 1023)
  refine ev_eq (lv' := [(0, .ref 0), (1, .int (nI (k))), (2, .int (nI (2)))]) (st' := []) (w' := compW T S P U O B Q C R tl rf) rfl rfl rfl ?_
  refine ev_b bX6_rival_0_5 (lv' := [(0, .ref 0), (1, .int (nI (k))), (2, .int (nI (2)))]) (st' := [.int (nI (k)), .ref 1]) (w2 := compW T S P U O B Q C R tl rf) rfl ?_
  refine ev_callVN (Yc := mX3_hasBid) [1, 2, 3, 4, 5, 6, 7, 8] dX6_rival_5 tn_444 kX3_hasBid (m_X3_hasBid S k hS (by omega)) rfl (st := []) rfl rfl rfl (by decide) hw_comp__1 (by decide) (Nat.le_of_ble_eq_true rfl) (Nat.le_refl _) (Nat.le_refl _) (fun r w' h => by obtain ⟨-, rfl⟩ := h; exact Nat.le_of_ble_eq_true rfl) ?_
  rintro _ _ ⟨rfl, rfl⟩
  refine ev_eq (lv' := [(0, .ref 0), (1, .int (nI (k))), (2, .int (nI (2)))]) (st' := [.int (nI (b01 (k < S.ca)))]) (w' := compW T S P U O B Q C R tl rf) rfl rfl xp_comp__1 ?_
  refine ev_ifne_b (tgt := 17) dX6_rival_8 (by decide) (fun h8 => ?_) (fun h8 => (by exfalso; omega))
  refine ev_b bX6_rival_17_26 (lv' := [(0, .ref 0), (1, .int (nI (k))), (2, .int (nI (2)))]) (st' := [.int (nI (k)), .ref 1, .ref 1]) (w2 := compW T S P U O B Q C R tl rf) rfl ?_
  refine ev_callVN (Yc := mX3_setOf) [1, 2, 3, 4, 5, 6, 7, 8] dX6_rival_26 tn_489 kX3_setOf (m_X3_setOf S k hS hk) rfl (st := [.ref 1]) rfl rfl rfl (by decide) hw_comp__1 (by decide) (Nat.le_of_ble_eq_true rfl) (Nat.le_refl _) (Nat.le_refl _) (fun r w' h => by obtain ⟨-, rfl⟩ := h; exact Nat.le_of_ble_eq_true rfl) ?_
  rintro _ _ ⟨rfl, rfl⟩
  refine ev_eq (lv' := [(0, .ref 0), (1, .int (nI (k))), (2, .int (nI (2)))]) (st' := [.int (nI (S.st k)), .ref 1]) (w' := compW T S P U O B Q C R tl rf) rfl rfl xp_comp__1 ?_
  refine ev_callVN (Yc := mX3_holders) [1, 2, 3, 4, 5, 6, 7, 8] dX6_rival_29 tn_685 kX3_holders (m_X3_holders S (S.st k) hS (by omega)) rfl (st := []) rfl rfl rfl (by decide) hw_comp__1 (by decide) (Nat.le_of_ble_eq_true rfl) (Nat.le_refl _) (Nat.le_refl _) (fun r w' h => by obtain ⟨-, rfl⟩ := h; exact Nat.le_of_ble_eq_true rfl) ?_
  rintro _ _ ⟨rfl, rfl⟩
  refine ev_eq (lv' := [(0, .ref 0), (1, .int (nI (k))), (2, .int (nI (2)))]) (st' := [.int (nI (hdTo S.st (S.st k) S.ca &&& S.ac))]) (w' := compW T S P U O B Q C R tl rf) rfl rfl xp_comp__1 ?_
  refine ev_b bX6_rival_32_34 (lv' := [(0, .ref 0), (1, .int (nI (k))), (2, .int (nI (2)))]) (st' := [.int (nI (k)), .int (nI (1)), .int (nI (hdTo S.st (S.st k) S.ca &&& S.ac))]) (w2 := compW T S P U O B Q C R tl rf) rfl ?_
  refine ev_ishl_n (by omega) dX6_rival_34 ?_
  refine ev_b bX6_rival_35_37 (lv' := [(0, .ref 0), (1, .int (nI (k))), (2, .int (nI (2)))]) (st' := [.int (nI (1 <<< k) ^^^ (-1)), .int (nI (hdTo S.st (S.st k) S.ca &&& S.ac))]) (w2 := compW T S P U O B Q C R tl rf) rfl ?_
  refine ev_iandn_n dX6_rival_37 ?_
  refine ev_b bX6_rival_38_40 (lv' := [(3, .int (nI (andn (hdTo S.st (S.st k) S.ca &&& S.ac) (1 <<< k)))), (0, .ref 0), (1, .int (nI (k))), (2, .int (nI (2)))]) (st' := [.int (nI (2))]) (w2 := compW T S P U O B Q C R tl rf) rfl ?_
  refine ev_tableIn (off := 41) (tgt := 81) dX6_rival_40 (by decide) (by decide) (by decide) (by decide) ?_
  refine ev_b bX6_rival_81_92 (lv' := [(3, .int (nI (andn (hdTo S.st (S.st k) S.ca &&& S.ac) (1 <<< k)))), (0, .ref 0), (1, .int (nI (k))), (2, .int (nI (2)))]) (st' := [.ref 1, .ref 0, .int (nI (andn (hdTo S.st (S.st k) S.ca &&& S.ac) (1 <<< k))), .ref 1, .int (nI (0))]) (w2 := compW T S P U O B Q C R tl rf) rfl ?_
  refine ev_callV (Yc := mX6_winnersOf) (rng 0 49) dX6_rival_92 tw_493 kX6_winnersOf (m_X6_winnersOf_S T S P U O B Q C R tl rf hS) rfl (st := [.int (nI (andn (hdTo S.st (S.st k) S.ca &&& S.ac) (1 <<< k))), .ref 1, .int (nI (0))]) rfl rfl rfl (by decide) (same_hw (compW T S P U O B Q C R tl rf)) (by decide) (Nat.le_of_ble_eq_true rfl) (Nat.le_refl _) (Nat.le_refl _) (fun r w' h => by obtain ⟨-, O', rfl, -⟩ := h; exact Nat.le_refl 49) ?_
  rintro _ _ ⟨rfl, O1, rfl, hK1⟩
  refine ev_eq (lv' := [(3, .int (nI (andn (hdTo S.st (S.st k) S.ca &&& S.ac) (1 <<< k)))), (0, .ref 0), (1, .int (nI (k))), (2, .int (nI (2)))]) (st' := [.int (nI (winB S 1023)), .int (nI (andn (hdTo S.st (S.st k) S.ca &&& S.ac) (1 <<< k))), .ref 1, .int (nI (0))]) (w' := compW T S P U O1 B Q C R tl rf) rfl rfl (same_xp (compW T S P U O B Q C R tl rf) (compW T S P U O1 B Q C R tl rf) rfl) ?_
  have hwb := winB_lt hS 1023
  refine ev_iand_n dX6_rival_95 ?_
  refine ev_callVN (Yc := mX3_pricesOf) [1, 2, 3, 4, 5, 6, 7, 8] dX6_rival_96 tn_701 kX3_pricesOf (m_X3_pricesOf S ((andn (hdTo S.st (S.st k) S.ca &&& S.ac) (1 <<< k)) &&& winB S 1023) hS (Nat.lt_of_le_of_lt Nat.and_le_right (by omega))) rfl (st := [.int (nI (0))]) rfl rfl rfl (by decide) hw_comp__1 (by decide) (Nat.le_of_ble_eq_true rfl) (Nat.le_refl _) (Nat.le_refl _) (fun r w' h => by obtain ⟨-, rfl⟩ := h; exact Nat.le_of_ble_eq_true rfl) ?_
  rintro _ _ ⟨rfl, rfl⟩
  refine ev_eq (lv' := [(3, .int (nI (andn (hdTo S.st (S.st k) S.ca &&& S.ac) (1 <<< k)))), (0, .ref 0), (1, .int (nI (k))), (2, .int (nI (2)))]) (st' := [.int (nI (prTo S.pr ((andn (hdTo S.st (S.st k) S.ca &&& S.ac) (1 <<< k)) &&& winB S 1023) S.ca)), .int (nI (0))]) (w' := compW T S P U O1 B Q C R tl rf) rfl rfl xp_comp__1 ?_
  refine ev_b bX6_rival_99_104 (lv' := [(3, .int (nI (andn (hdTo S.st (S.st k) S.ca &&& S.ac) (1 <<< k)))), (0, .ref 0), (1, .int (nI (k))), (2, .int (nI (2)))]) (st' := [.int (nI (k)), .ref 1, .int (nI (prTo S.pr ((andn (hdTo S.st (S.st k) S.ca &&& S.ac) (1 <<< k)) &&& winB S 1023) S.ca)), .int (nI (0))]) (w2 := compW T S P U O1 B Q C R tl rf) rfl ?_
  refine ev_callVN (Yc := mX3_priceOf) [1, 2, 3, 4, 5, 6, 7, 8] dX6_rival_104 tn_453 kX3_priceOf (m_X3_priceOf S k hS hk) rfl (st := [.int (nI (prTo S.pr ((andn (hdTo S.st (S.st k) S.ca &&& S.ac) (1 <<< k)) &&& winB S 1023) S.ca)), .int (nI (0))]) rfl rfl rfl (by decide) hw_comp__1 (by decide) (Nat.le_of_ble_eq_true rfl) (Nat.le_refl _) (Nat.le_refl _) (fun r w' h => by obtain ⟨-, rfl⟩ := h; exact Nat.le_of_ble_eq_true rfl) ?_
  rintro _ _ ⟨rfl, rfl⟩
  refine ev_eq (lv' := [(3, .int (nI (andn (hdTo S.st (S.st k) S.ca &&& S.ac) (1 <<< k)))), (0, .ref 0), (1, .int (nI (k))), (2, .int (nI (2)))]) (st' := [.int (nI (S.pr k)), .int (nI (prTo S.pr ((andn (hdTo S.st (S.st k) S.ca &&& S.ac) (1 <<< k)) &&& winB S 1023) S.ca)), .int (nI (0))]) (w' := compW T S P U O1 B Q C R tl rf) rfl rfl xp_comp__1 ?_
  refine ev_top (y := (zI (((S.pr k : Nat) : Int)))) ((zI_nat _).symm.trans (congrArg zI (show ((S.pr k : Nat) : Int) = ((S.pr k : Nat) : Int) from by rfl))) ?_
  refine ev_top2 (y := zI (((prTo S.pr ((andn (hdTo S.st (S.st k) S.ca &&& S.ac) (1 <<< k)) &&& winB S 1023) S.ca : Nat) : Int))) (zI_nat _).symm ?_
  refine ev_isub_z dX6_rival_107 ?_
  refine ev_top2 (y := zI (((0 : Nat) : Int))) (zI_nat _).symm ?_
  refine ev_max dX6_rival_108 tw_702 tw_655 tw_15 tw_656 (by decide) (Nat.le_of_ble_eq_true rfl) (Nat.le_refl _) (Nat.le_refl _) ?_
  refine ev_top (z_max (by constructor <;> omega) (by constructor <;> omega)) ?_
  exact ev_iret dX6_rival_111 rfl (Nat.le_refl 49) (Nat.le_refl _) (Nat.le_refl _) ⟨rfl, _, _, _, _, _, _, rfl, hQ, rfl, rfl⟩
theorem bX6_blocks_0_1 {l : Launch} {E : XE} : Snd l E mX6_blocks 0 1 (xs [x_iload 1]) := Snd.cons (snd_iload_n (i := 1) dX6_blocks_0 rfl) Snd.nil
theorem bX6_blocks_14_17 {l : Launch} {E : XE} : Snd l E mX6_blocks 14 17 (xs [x_aload 0, x_push (.int (-2))]) := Snd.cons (snd_aload_n (i := 0) dX6_blocks_14 rfl) (Snd.cons (snd_bipush (v := -2) dX6_blocks_15 (by decide)) Snd.nil)
set_option maxHeartbeats 4000000 in
set_option maxRecDepth 100000 in
theorem p_blocks_2a {l : Launch} {E : XE} (T : TopN) (S P U : SaleN) (O : OutN) (B : BillN) (Q : SeaN) (C : ScrN) (R : PrtN) (tl rf : Nat → Nat) (z1 z2 : Int) (hS : SaleOK S) (hQ : Q.fd < 2147483648) (rz1 : -2147483648 ≤ z1 ∧ z1 < 2147483648) (rz2 : -2147483648 ≤ z2 ∧ z2 < 2147483648) (h : ¬ (0 ≤ z1 ∧ z1 < 3)) : MetE l E mX6_blocks (1) 0 0 [.ref 0, .int (zI (z1)), .int (zI (z2))] (compW T S P U O B Q C R tl rf) (CP T S P (C.lt) (C.sz) tl (up rf 2 (rf 2 + 1)) (some (.int (-2)))) := by
  refine MetE.of (by decide +kernel) (Nat.le_of_ble_eq_true rfl) ?_
  have hca := hS.1
  have hpw := pow_ca hS
  have hac := ac_lt hS
  
  refine ev_eq (lv' := [(0, .ref 0), (1, .int (zI (z1))), (2, .int (zI (z2)))]) (st' := []) (w' := compW T S P U O B Q C R tl rf) rfl rfl rfl ?_
  refine ev_b bX6_blocks_0_1 (lv' := [(0, .ref 0), (1, .int (zI (z1))), (2, .int (zI (z2)))]) (st' := [.int (zI (z1))]) (w2 := compW T S P U O B Q C R tl rf) rfl ?_
  refine ev_callS (Yc := mX6_isHow) [] dX6_blocks_1 tw_711 kX6_isHow (m_X6_isHow_z z1 rz1) rfl (st := []) rfl (by decide) rfl (by decide) (Nat.le_of_ble_eq_true rfl) (Nat.le_refl _) (Nat.le_refl _) (fun r w' h => by obtain ⟨-, rfl⟩ := h; exact Nat.le_of_ble_eq_true rfl) ?_
  rintro _ _ ⟨rfl, rfl⟩
  refine ev_eq (lv' := [(0, .ref 0), (1, .int (zI (z1))), (2, .int (zI (z2)))]) (st' := [.int (nI (b01 (0 ≤ z1 ∧ z1 < 3)))]) (w' := compW T S P U O B Q C R tl rf) rfl rfl rfl ?_
  refine ev_ifeq_b (tgt := 14) dX6_blocks_4 (by decide) (fun h4 => ?_) (fun h4 => (by exfalso; omega))
  refine ev_b bX6_blocks_14_17 (lv' := [(0, .ref 0), (1, .int (zI (z1))), (2, .int (zI (z2)))]) (st' := [.int (-2), .ref 0]) (w2 := compW T S P U O B Q C R tl rf) rfl ?_
  refine ev_callV (Yc := mX6_refuse) (rng 0 49) dX6_blocks_17 tw_248 kX6_refuse (m_X6_refuse_2 T S P U O B Q C R tl rf) rfl (st := []) rfl rfl rfl (by decide) (same_hw (compW T S P U O B Q C R tl rf)) (by decide) (Nat.le_of_ble_eq_true rfl) (Nat.le_refl _) (Nat.le_refl _) (fun r w' h => by obtain ⟨-, rfl⟩ := h; exact Nat.le_of_ble_eq_true rfl) ?_
  rintro _ _ ⟨rfl, rfl⟩
  refine ev_eq (lv' := [(0, .ref 0), (1, .int (zI (z1))), (2, .int (zI (z2)))]) (st' := [.int (-2)]) (w' := compW T S P U O B Q C R tl ((up rf 2 (rf 2 + 1)))) rfl rfl (same_xp (compW T S P U O B Q C R tl rf) (compW T S P U O B Q C R tl ((up rf 2 (rf 2 + 1)))) rfl) ?_
  exact ev_iret dX6_blocks_20 rfl (Nat.le_refl 49) (Nat.le_refl _) (Nat.le_refl _) ⟨rfl, _, _, _, _, _, _, rfl, hQ, rfl, rfl⟩
theorem bX6_blocks_7_8 {l : Launch} {E : XE} : Snd l E mX6_blocks 7 8 (xs [x_iload 2]) := Snd.cons (snd_iload_n (i := 2) dX6_blocks_7 rfl) Snd.nil
set_option maxHeartbeats 4000000 in
set_option maxRecDepth 100000 in
theorem p_blocks_2b {l : Launch} {E : XE} (T : TopN) (S P U : SaleN) (O : OutN) (B : BillN) (Q : SeaN) (C : ScrN) (R : PrtN) (tl rf : Nat → Nat) (z1 z2 : Int) (hS : SaleOK S) (hQ : Q.fd < 2147483648) (rz1 : -2147483648 ≤ z1 ∧ z1 < 2147483648) (rz2 : -2147483648 ≤ z2 ∧ z2 < 2147483648) (h : 0 ≤ z1 ∧ z1 < 3) (h2 : ¬ (z2 = 0 ∨ z2 = 1)) : MetE l E mX6_blocks (1) 0 0 [.ref 0, .int (zI (z1)), .int (zI (z2))] (compW T S P U O B Q C R tl rf) (CP T S P (C.lt) (C.sz) tl (up rf 2 (rf 2 + 1)) (some (.int (-2)))) := by
  refine MetE.of (by decide +kernel) (Nat.le_of_ble_eq_true rfl) ?_
  have hca := hS.1
  have hpw := pow_ca hS
  have hac := ac_lt hS
  
  refine ev_eq (lv' := [(0, .ref 0), (1, .int (zI (z1))), (2, .int (zI (z2)))]) (st' := []) (w' := compW T S P U O B Q C R tl rf) rfl rfl rfl ?_
  refine ev_b bX6_blocks_0_1 (lv' := [(0, .ref 0), (1, .int (zI (z1))), (2, .int (zI (z2)))]) (st' := [.int (zI (z1))]) (w2 := compW T S P U O B Q C R tl rf) rfl ?_
  refine ev_callS (Yc := mX6_isHow) [] dX6_blocks_1 tw_711 kX6_isHow (m_X6_isHow_z z1 rz1) rfl (st := []) rfl (by decide) rfl (by decide) (Nat.le_of_ble_eq_true rfl) (Nat.le_refl _) (Nat.le_refl _) (fun r w' h => by obtain ⟨-, rfl⟩ := h; exact Nat.le_of_ble_eq_true rfl) ?_
  rintro _ _ ⟨rfl, rfl⟩
  refine ev_eq (lv' := [(0, .ref 0), (1, .int (zI (z1))), (2, .int (zI (z2)))]) (st' := [.int (nI (b01 (0 ≤ z1 ∧ z1 < 3)))]) (w' := compW T S P U O B Q C R tl rf) rfl rfl rfl ?_
  refine ev_ifeq_b (tgt := 14) dX6_blocks_4 (by decide) (fun h4 => (by exfalso; omega)) (fun h4 => ?_)
  refine ev_b bX6_blocks_7_8 (lv' := [(0, .ref 0), (1, .int (zI (z1))), (2, .int (zI (z2)))]) (st' := [.int (zI (z2))]) (w2 := compW T S P U O B Q C R tl rf) rfl ?_
  refine ev_callS (Yc := mX6_isEither) [] dX6_blocks_8 tw_667 kX6_isEither (m_X6_isEither_z z2 rz2) rfl (st := []) rfl (by decide) rfl (by decide) (Nat.le_of_ble_eq_true rfl) (Nat.le_refl _) (Nat.le_refl _) (fun r w' h => by obtain ⟨-, rfl⟩ := h; exact Nat.le_of_ble_eq_true rfl) ?_
  rintro _ _ ⟨rfl, rfl⟩
  refine ev_eq (lv' := [(0, .ref 0), (1, .int (zI (z1))), (2, .int (zI (z2)))]) (st' := [.int (nI (b01 (z2 = 0 ∨ z2 = 1)))]) (w' := compW T S P U O B Q C R tl rf) rfl rfl rfl ?_
  refine ev_ifne_b (tgt := 21) dX6_blocks_11 (by decide) (fun h11 => (by exfalso; omega)) (fun h11 => ?_)
  refine ev_b bX6_blocks_14_17 (lv' := [(0, .ref 0), (1, .int (zI (z1))), (2, .int (zI (z2)))]) (st' := [.int (-2), .ref 0]) (w2 := compW T S P U O B Q C R tl rf) rfl ?_
  refine ev_callV (Yc := mX6_refuse) (rng 0 49) dX6_blocks_17 tw_248 kX6_refuse (m_X6_refuse_2 T S P U O B Q C R tl rf) rfl (st := []) rfl rfl rfl (by decide) (same_hw (compW T S P U O B Q C R tl rf)) (by decide) (Nat.le_of_ble_eq_true rfl) (Nat.le_refl _) (Nat.le_refl _) (fun r w' h => by obtain ⟨-, rfl⟩ := h; exact Nat.le_of_ble_eq_true rfl) ?_
  rintro _ _ ⟨rfl, rfl⟩
  refine ev_eq (lv' := [(0, .ref 0), (1, .int (zI (z1))), (2, .int (zI (z2)))]) (st' := [.int (-2)]) (w' := compW T S P U O B Q C R tl ((up rf 2 (rf 2 + 1)))) rfl rfl (same_xp (compW T S P U O B Q C R tl rf) (compW T S P U O B Q C R tl ((up rf 2 (rf 2 + 1)))) rfl) ?_
  exact ev_iret dX6_blocks_20 rfl (Nat.le_refl 49) (Nat.le_refl _) (Nat.le_refl _) ⟨rfl, _, _, _, _, _, _, rfl, hQ, rfl, rfl⟩
theorem bX6_blocks_21_22 {l : Launch} {E : XE} : Snd l E mX6_blocks 21 22 (xs [x_aload 0]) := Snd.cons (snd_aload_n (i := 0) dX6_blocks_21 rfl) Snd.nil
theorem bX6_blocks_25_30 {l : Launch} {E : XE} : Snd l E mX6_blocks 25 30 (xs [x_aload 0, x_get 7 4, x_iload 1]) := Snd.cons (snd_aload_n (i := 0) dX6_blocks_25 rfl) (Snd.cons (snd_get (ci := 7) (k := 4) dX6_blocks_26 rfl inX6 (by decide) tw_211) (Snd.cons (snd_iload_n (i := 1) dX6_blocks_29 rfl) Snd.nil))
theorem bX6_blocks_33_39 {l : Launch} {E : XE} : Snd l E mX6_blocks 33 39 (xs [x_astore 3, x_aload 0, x_get 7 4, x_aload 3]) := Snd.cons (snd_astore_n (i := 3) dX6_blocks_33 rfl (by decide)) (Snd.cons (snd_aload_n (i := 0) dX6_blocks_34 rfl) (Snd.cons (snd_get (ci := 7) (k := 4) dX6_blocks_35 rfl inX6 (by decide) tw_211) (Snd.cons (snd_aload_n (i := 3) dX6_blocks_38 rfl) Snd.nil)))
theorem bX6_blocks_42_45 {l : Launch} {E : XE} : Snd l E mX6_blocks 42 45 (xs [x_istore 4, x_iload 2]) := Snd.cons (snd_istore dX6_blocks_42 (by decide)) (Snd.cons (snd_iload_n (i := 2) dX6_blocks_44 rfl) Snd.nil)
theorem bX6_blocks_48_50 {l : Launch} {E : XE} : Snd l E mX6_blocks 48 50 (xs [x_iload 4]) := Snd.cons (snd_iload dX6_blocks_48) Snd.nil
set_option maxHeartbeats 4000000 in
set_option maxRecDepth 100000 in
theorem p_blocks_w0_0 {l : Launch} {E : XE} (T : TopN) (S P U : SaleN) (O : OutN) (B : BillN) (Q : SeaN) (C : ScrN) (R : PrtN) (tl rf : Nat → Nat) (n : Nat) (hS : SaleOK S) (hQ : Q.fd < 2147483648) (hn : LiftsTo S n) : MetE l E mX6_blocks (6) 0 0 [.ref 0, .int (nI (0)), .int (nI (0))] (compW T S P U O B Q C R tl rf) (CP T S P (C.lt) (C.sz) tl rf (some (.int (zI ((blkS S (wonZ S)).2))))) := by
  refine MetE.of (by decide +kernel) (Nat.le_of_ble_eq_true rfl) ?_
  have hca := hS.1
  have hpw := pow_ca hS
  have hac := ac_lt hS
  
  refine ev_eq (lv' := [(0, .ref 0), (1, .int (nI (0))), (2, .int (nI (0)))]) (st' := []) (w' := compW T S P U O B Q C R tl rf) rfl rfl rfl ?_
  refine ev_b bX6_blocks_0_1 (lv' := [(0, .ref 0), (1, .int (nI (0))), (2, .int (nI (0)))]) (st' := [.int (nI (0))]) (w2 := compW T S P U O B Q C R tl rf) rfl ?_
  refine ev_callS (Yc := mX6_isHow) [] dX6_blocks_1 tw_711 kX6_isHow m_X6_isHow_0 rfl (st := []) rfl (by decide) rfl (by decide) (Nat.le_of_ble_eq_true rfl) (Nat.le_refl _) (Nat.le_refl _) (fun r w' h => by obtain ⟨-, rfl⟩ := h; exact Nat.le_of_ble_eq_true rfl) ?_
  rintro _ _ ⟨rfl, rfl⟩
  refine ev_eq (lv' := [(0, .ref 0), (1, .int (nI (0))), (2, .int (nI (0)))]) (st' := [.int (nI (1))]) (w' := compW T S P U O B Q C R tl rf) rfl rfl rfl ?_
  refine ev_if_eq_n (tgt := 14) (by decide) dX6_blocks_4 (by decide) (fun h4 => (by exfalso; omega)) (fun h4 => ?_)
  refine ev_b bX6_blocks_7_8 (lv' := [(0, .ref 0), (1, .int (nI (0))), (2, .int (nI (0)))]) (st' := [.int (nI (0))]) (w2 := compW T S P U O B Q C R tl rf) rfl ?_
  refine ev_callS (Yc := mX6_isEither) [] dX6_blocks_8 tw_667 kX6_isEither m_X6_isEither_0 rfl (st := []) rfl (by decide) rfl (by decide) (Nat.le_of_ble_eq_true rfl) (Nat.le_refl _) (Nat.le_refl _) (fun r w' h => by obtain ⟨-, rfl⟩ := h; exact Nat.le_of_ble_eq_true rfl) ?_
  rintro _ _ ⟨rfl, rfl⟩
  refine ev_eq (lv' := [(0, .ref 0), (1, .int (nI (0))), (2, .int (nI (0)))]) (st' := [.int (nI (1))]) (w' := compW T S P U O B Q C R tl rf) rfl rfl rfl ?_
  refine ev_if_ne_n (tgt := 21) (by decide) dX6_blocks_11 (by decide) (fun h11 => ?_) (fun h11 => (by exfalso; omega))
  refine ev_b bX6_blocks_21_22 (lv' := [(0, .ref 0), (1, .int (nI (0))), (2, .int (nI (0)))]) (st' := [.ref 0]) (w2 := compW T S P U O B Q C R tl rf) rfl ?_
  refine ev_callV (Yc := mX6_chargeAndLift) (rng 0 49) dX6_blocks_22 tw_714 kX6_chargeAndLift (m_X6_chargeAndLift T S P U O B Q C R tl rf n hS hn) rfl (st := []) rfl rfl rfl (by decide) (same_hw (compW T S P U O B Q C R tl rf)) (by decide) (Nat.le_of_ble_eq_true rfl) (Nat.le_refl _) (Nat.le_refl _) (fun r w' h => by obtain ⟨-, O', rfl, -⟩ := h; exact Nat.le_refl 49) ?_
  rintro _ _ ⟨rfl, O1, rfl, hK1⟩
  refine ev_eq (lv' := [(0, .ref 0), (1, .int (nI (0))), (2, .int (nI (0)))]) (st' := []) (w' := compW T S P U O1 ((lfB S (itS S n) n)) Q C R tl rf) rfl rfl (same_xp (compW T S P U O B Q C R tl rf) (compW T S P U O1 ((lfB S (itS S n) n)) Q C R tl rf) rfl) ?_
  refine ev_b bX6_blocks_25_30 (lv' := [(0, .ref 0), (1, .int (nI (0))), (2, .int (nI (0)))]) (st' := [.int (nI (0)), .ref 30]) (w2 := compW T S P U O1 ((lfB S (itS S n) n)) Q C R tl rf) rfl ?_
  refine ev_callVN (Yc := mX0_payments) [30, 31, 32, 33, 34] dX6_blocks_30 tn_754 kX0_payments (m_X0_payments_0 (lfB S (itS S n) n)) rfl (st := []) rfl rfl rfl (by decide) hw_comp__30 (by decide) (Nat.le_of_ble_eq_true rfl) (Nat.le_refl _) (Nat.le_refl _) (fun r w' h => by obtain ⟨-, rfl⟩ := h; exact Nat.le_of_ble_eq_true rfl) ?_
  rintro _ _ ⟨rfl, rfl⟩
  refine ev_eq (lv' := [(0, .ref 0), (1, .int (nI (0))), (2, .int (nI (0)))]) (st' := [.ref 31]) (w' := compW T S P U O1 ((lfB S (itS S n) n)) Q C R tl rf) rfl rfl xp_comp__30 ?_
  refine ev_b bX6_blocks_33_39 (lv' := [(3, .ref 31), (0, .ref 0), (1, .int (nI (0))), (2, .int (nI (0)))]) (st' := [.ref 31, .ref 30]) (w2 := compW T S P U O1 ((lfB S (itS S n) n)) Q C R tl rf) rfl ?_
  refine ev_callVN (Yc := mX0_blocker) [30, 31, 32, 33, 34] dX6_blocks_39 tn_755 kX0_blocker (m_X0_blocker_0 (lfB S (itS S n) n) (lfBB hS (wonZ_b hS))) rfl (st := []) rfl rfl rfl (by decide) hw_comp__30 (by decide) (Nat.le_of_ble_eq_true rfl) (Nat.le_refl _) (Nat.le_refl _) (fun r w' h => by obtain ⟨-, rfl⟩ := h; exact Nat.le_of_ble_eq_true rfl) ?_
  rintro _ _ ⟨rfl, rfl⟩
  refine ev_eq (lv' := [(3, .ref 31), (0, .ref 0), (1, .int (nI (0))), (2, .int (nI (0)))]) (st' := [.int (zI ((blkTo (lfB S (itS S n) n) (BillN.wo (lfB S (itS S n) n)) 32).2))]) (w' := compW T S P U O1 ((lfB S (itS S n) n)) Q C R tl rf) rfl rfl xp_comp__30 ?_
  refine ev_top (y := (zI ((blkS S (wonZ S)).2))) (congrArg zI (show (blkTo (lfB S (itS S n) n) (BillN.wo (lfB S (itS S n) n)) 32).2 = (blkS S (wonZ S)).2 from by exact blk_conv)) ?_
  refine ev_b bX6_blocks_42_45 (lv' := [(4, .int (zI ((blkS S (wonZ S)).2))), (3, .ref 31), (0, .ref 0), (1, .int (nI (0))), (2, .int (nI (0)))]) (st' := [.int (nI (0))]) (w2 := compW T S P U O1 ((lfB S (itS S n) n)) Q C R tl rf) rfl ?_
  refine ev_if_ne_n (tgt := 51) (by decide) dX6_blocks_45 (by decide) (fun h45 => (by exfalso; omega)) (fun h45 => ?_)
  refine ev_b bX6_blocks_48_50 (lv' := [(4, .int (zI ((blkS S (wonZ S)).2))), (3, .ref 31), (0, .ref 0), (1, .int (nI (0))), (2, .int (nI (0)))]) (st' := [.int (zI ((blkS S (wonZ S)).2))]) (w2 := compW T S P U O1 ((lfB S (itS S n) n)) Q C R tl rf) rfl ?_
  exact ev_iret dX6_blocks_50 rfl (Nat.le_refl 49) (Nat.le_refl _) (Nat.le_refl _) ⟨rfl, _, _, _, _, _, _, rfl, hQ, rfl, rfl⟩
theorem bX6_blocks_51_55 {l : Launch} {E : XE} : Snd l E mX6_blocks 51 55 (xs [x_iload 4, x_push (.int (-9))]) := Snd.cons (snd_iload dX6_blocks_51) (Snd.cons (snd_bipush (v := -9) dX6_blocks_53 (by decide)) Snd.nil)
theorem bX6_blocks_58_72 {l : Launch} {E : XE} : Snd l E mX6_blocks 58 72 (xs [x_push (.int (nI 0)), x_id]) := Snd.cons (snd_iconst (v := nI 0) dX6_blocks_58 (by decide)) (Snd.cons (snd_goto (tgt := 72) dX6_blocks_59 (by decide)) Snd.nil)
set_option maxHeartbeats 4000000 in
set_option maxRecDepth 100000 in
theorem p_blocks_w0_1n {l : Launch} {E : XE} (T : TopN) (S P U : SaleN) (O : OutN) (B : BillN) (Q : SeaN) (C : ScrN) (R : PrtN) (tl rf : Nat → Nat) (n : Nat) (hS : SaleOK S) (hQ : Q.fd < 2147483648) (hn : LiftsTo S n) (hb : (blkS S (wonZ S)).2 = -9) : MetE l E mX6_blocks (6) 0 0 [.ref 0, .int (nI (0)), .int (nI (1))] (compW T S P U O B Q C R tl rf) (CP T S P (C.lt) (C.sz) tl rf (some (.int (nI (0))))) := by
  refine MetE.of (by decide +kernel) (Nat.le_of_ble_eq_true rfl) ?_
  have hca := hS.1
  have hpw := pow_ca hS
  have hac := ac_lt hS
  
  refine ev_eq (lv' := [(0, .ref 0), (1, .int (nI (0))), (2, .int (nI (1)))]) (st' := []) (w' := compW T S P U O B Q C R tl rf) rfl rfl rfl ?_
  refine ev_b bX6_blocks_0_1 (lv' := [(0, .ref 0), (1, .int (nI (0))), (2, .int (nI (1)))]) (st' := [.int (nI (0))]) (w2 := compW T S P U O B Q C R tl rf) rfl ?_
  refine ev_callS (Yc := mX6_isHow) [] dX6_blocks_1 tw_711 kX6_isHow m_X6_isHow_0 rfl (st := []) rfl (by decide) rfl (by decide) (Nat.le_of_ble_eq_true rfl) (Nat.le_refl _) (Nat.le_refl _) (fun r w' h => by obtain ⟨-, rfl⟩ := h; exact Nat.le_of_ble_eq_true rfl) ?_
  rintro _ _ ⟨rfl, rfl⟩
  refine ev_eq (lv' := [(0, .ref 0), (1, .int (nI (0))), (2, .int (nI (1)))]) (st' := [.int (nI (1))]) (w' := compW T S P U O B Q C R tl rf) rfl rfl rfl ?_
  refine ev_if_eq_n (tgt := 14) (by decide) dX6_blocks_4 (by decide) (fun h4 => (by exfalso; omega)) (fun h4 => ?_)
  refine ev_b bX6_blocks_7_8 (lv' := [(0, .ref 0), (1, .int (nI (0))), (2, .int (nI (1)))]) (st' := [.int (nI (1))]) (w2 := compW T S P U O B Q C R tl rf) rfl ?_
  refine ev_callS (Yc := mX6_isEither) [] dX6_blocks_8 tw_667 kX6_isEither m_X6_isEither_1 rfl (st := []) rfl (by decide) rfl (by decide) (Nat.le_of_ble_eq_true rfl) (Nat.le_refl _) (Nat.le_refl _) (fun r w' h => by obtain ⟨-, rfl⟩ := h; exact Nat.le_of_ble_eq_true rfl) ?_
  rintro _ _ ⟨rfl, rfl⟩
  refine ev_eq (lv' := [(0, .ref 0), (1, .int (nI (0))), (2, .int (nI (1)))]) (st' := [.int (nI (1))]) (w' := compW T S P U O B Q C R tl rf) rfl rfl rfl ?_
  refine ev_if_ne_n (tgt := 21) (by decide) dX6_blocks_11 (by decide) (fun h11 => ?_) (fun h11 => (by exfalso; omega))
  refine ev_b bX6_blocks_21_22 (lv' := [(0, .ref 0), (1, .int (nI (0))), (2, .int (nI (1)))]) (st' := [.ref 0]) (w2 := compW T S P U O B Q C R tl rf) rfl ?_
  refine ev_callV (Yc := mX6_chargeAndLift) (rng 0 49) dX6_blocks_22 tw_714 kX6_chargeAndLift (m_X6_chargeAndLift T S P U O B Q C R tl rf n hS hn) rfl (st := []) rfl rfl rfl (by decide) (same_hw (compW T S P U O B Q C R tl rf)) (by decide) (Nat.le_of_ble_eq_true rfl) (Nat.le_refl _) (Nat.le_refl _) (fun r w' h => by obtain ⟨-, O', rfl, -⟩ := h; exact Nat.le_refl 49) ?_
  rintro _ _ ⟨rfl, O1, rfl, hK1⟩
  refine ev_eq (lv' := [(0, .ref 0), (1, .int (nI (0))), (2, .int (nI (1)))]) (st' := []) (w' := compW T S P U O1 ((lfB S (itS S n) n)) Q C R tl rf) rfl rfl (same_xp (compW T S P U O B Q C R tl rf) (compW T S P U O1 ((lfB S (itS S n) n)) Q C R tl rf) rfl) ?_
  refine ev_b bX6_blocks_25_30 (lv' := [(0, .ref 0), (1, .int (nI (0))), (2, .int (nI (1)))]) (st' := [.int (nI (0)), .ref 30]) (w2 := compW T S P U O1 ((lfB S (itS S n) n)) Q C R tl rf) rfl ?_
  refine ev_callVN (Yc := mX0_payments) [30, 31, 32, 33, 34] dX6_blocks_30 tn_754 kX0_payments (m_X0_payments_0 (lfB S (itS S n) n)) rfl (st := []) rfl rfl rfl (by decide) hw_comp__30 (by decide) (Nat.le_of_ble_eq_true rfl) (Nat.le_refl _) (Nat.le_refl _) (fun r w' h => by obtain ⟨-, rfl⟩ := h; exact Nat.le_of_ble_eq_true rfl) ?_
  rintro _ _ ⟨rfl, rfl⟩
  refine ev_eq (lv' := [(0, .ref 0), (1, .int (nI (0))), (2, .int (nI (1)))]) (st' := [.ref 31]) (w' := compW T S P U O1 ((lfB S (itS S n) n)) Q C R tl rf) rfl rfl xp_comp__30 ?_
  refine ev_b bX6_blocks_33_39 (lv' := [(3, .ref 31), (0, .ref 0), (1, .int (nI (0))), (2, .int (nI (1)))]) (st' := [.ref 31, .ref 30]) (w2 := compW T S P U O1 ((lfB S (itS S n) n)) Q C R tl rf) rfl ?_
  refine ev_callVN (Yc := mX0_blocker) [30, 31, 32, 33, 34] dX6_blocks_39 tn_755 kX0_blocker (m_X0_blocker_0 (lfB S (itS S n) n) (lfBB hS (wonZ_b hS))) rfl (st := []) rfl rfl rfl (by decide) hw_comp__30 (by decide) (Nat.le_of_ble_eq_true rfl) (Nat.le_refl _) (Nat.le_refl _) (fun r w' h => by obtain ⟨-, rfl⟩ := h; exact Nat.le_of_ble_eq_true rfl) ?_
  rintro _ _ ⟨rfl, rfl⟩
  refine ev_eq (lv' := [(3, .ref 31), (0, .ref 0), (1, .int (nI (0))), (2, .int (nI (1)))]) (st' := [.int (zI ((blkTo (lfB S (itS S n) n) (BillN.wo (lfB S (itS S n) n)) 32).2))]) (w' := compW T S P U O1 ((lfB S (itS S n) n)) Q C R tl rf) rfl rfl xp_comp__30 ?_
  refine ev_top (y := (zI (-9))) (congrArg zI (show (blkTo (lfB S (itS S n) n) (BillN.wo (lfB S (itS S n) n)) 32).2 = -9 from by exact blk_conv.trans hb)) ?_
  refine ev_b bX6_blocks_42_45 (lv' := [(4, .int (zI (-9))), (3, .ref 31), (0, .ref 0), (1, .int (nI (0))), (2, .int (nI (1)))]) (st' := [.int (nI (1))]) (w2 := compW T S P U O1 ((lfB S (itS S n) n)) Q C R tl rf) rfl ?_
  refine ev_if_ne_n (tgt := 51) (by decide) dX6_blocks_45 (by decide) (fun h45 => ?_) (fun h45 => (by exfalso; omega))
  refine ev_b bX6_blocks_51_55 (lv' := [(4, .int (zI (-9))), (3, .ref 31), (0, .ref 0), (1, .int (nI (0))), (2, .int (nI (1)))]) (st' := [.int (-9), .int (zI (-9))]) (w2 := compW T S P U O1 ((lfB S (itS S n) n)) Q C R tl rf) rfl ?_
  refine ev_top (y := zI (-9)) (by decide) ?_
  refine ev_icmp_ne_z (tgt := 62) (by constructor <;> omega) (by constructor <;> omega) dX6_blocks_55 (by decide) (fun h55 => (by exfalso; omega)) (fun h55 => ?_)
  refine ev_b bX6_blocks_58_72 (lv' := [(4, .int (zI (-9))), (3, .ref 31), (0, .ref 0), (1, .int (nI (0))), (2, .int (nI (1)))]) (st' := [.int (nI (0))]) (w2 := compW T S P U O1 ((lfB S (itS S n) n)) Q C R tl rf) rfl ?_
  exact ev_iret dX6_blocks_72 rfl (Nat.le_refl 49) (Nat.le_refl _) (Nat.le_refl _) ⟨rfl, _, _, _, _, _, _, rfl, hQ, rfl, rfl⟩
theorem bX6_blocks_62_69 {l : Launch} {E : XE} : Snd l E mX6_blocks 62 69 (xs [x_aload 0, x_get 7 4, x_aload 3, x_iload 4]) := Snd.cons (snd_aload_n (i := 0) dX6_blocks_62 rfl) (Snd.cons (snd_get (ci := 7) (k := 4) dX6_blocks_63 rfl inX6 (by decide) tw_211) (Snd.cons (snd_aload_n (i := 3) dX6_blocks_66 rfl) (Snd.cons (snd_iload dX6_blocks_67) Snd.nil)))
set_option maxHeartbeats 4000000 in
set_option maxRecDepth 100000 in
theorem p_blocks_w0_1s {l : Launch} {E : XE} (T : TopN) (S P U : SaleN) (O : OutN) (B : BillN) (Q : SeaN) (C : ScrN) (R : PrtN) (tl rf : Nat → Nat) (n g : Nat) (hS : SaleOK S) (hQ : Q.fd < 2147483648) (hn : LiftsTo S n) (hg : g < 32) (hb : (blkS S (wonZ S)).2 = ((g : Nat) : Int)) : MetE l E mX6_blocks (6) 0 0 [.ref 0, .int (nI (0)), .int (nI (1))] (compW T S P U O B Q C R tl rf) (CP T S P (C.lt) (C.sz) tl rf (some (.int (zI (excS S (wonZ S) g))))) := by
  refine MetE.of (by decide +kernel) (Nat.le_of_ble_eq_true rfl) ?_
  have hca := hS.1
  have hpw := pow_ca hS
  have hac := ac_lt hS
  
  refine ev_eq (lv' := [(0, .ref 0), (1, .int (nI (0))), (2, .int (nI (1)))]) (st' := []) (w' := compW T S P U O B Q C R tl rf) rfl rfl rfl ?_
  refine ev_b bX6_blocks_0_1 (lv' := [(0, .ref 0), (1, .int (nI (0))), (2, .int (nI (1)))]) (st' := [.int (nI (0))]) (w2 := compW T S P U O B Q C R tl rf) rfl ?_
  refine ev_callS (Yc := mX6_isHow) [] dX6_blocks_1 tw_711 kX6_isHow m_X6_isHow_0 rfl (st := []) rfl (by decide) rfl (by decide) (Nat.le_of_ble_eq_true rfl) (Nat.le_refl _) (Nat.le_refl _) (fun r w' h => by obtain ⟨-, rfl⟩ := h; exact Nat.le_of_ble_eq_true rfl) ?_
  rintro _ _ ⟨rfl, rfl⟩
  refine ev_eq (lv' := [(0, .ref 0), (1, .int (nI (0))), (2, .int (nI (1)))]) (st' := [.int (nI (1))]) (w' := compW T S P U O B Q C R tl rf) rfl rfl rfl ?_
  refine ev_if_eq_n (tgt := 14) (by decide) dX6_blocks_4 (by decide) (fun h4 => (by exfalso; omega)) (fun h4 => ?_)
  refine ev_b bX6_blocks_7_8 (lv' := [(0, .ref 0), (1, .int (nI (0))), (2, .int (nI (1)))]) (st' := [.int (nI (1))]) (w2 := compW T S P U O B Q C R tl rf) rfl ?_
  refine ev_callS (Yc := mX6_isEither) [] dX6_blocks_8 tw_667 kX6_isEither m_X6_isEither_1 rfl (st := []) rfl (by decide) rfl (by decide) (Nat.le_of_ble_eq_true rfl) (Nat.le_refl _) (Nat.le_refl _) (fun r w' h => by obtain ⟨-, rfl⟩ := h; exact Nat.le_of_ble_eq_true rfl) ?_
  rintro _ _ ⟨rfl, rfl⟩
  refine ev_eq (lv' := [(0, .ref 0), (1, .int (nI (0))), (2, .int (nI (1)))]) (st' := [.int (nI (1))]) (w' := compW T S P U O B Q C R tl rf) rfl rfl rfl ?_
  refine ev_if_ne_n (tgt := 21) (by decide) dX6_blocks_11 (by decide) (fun h11 => ?_) (fun h11 => (by exfalso; omega))
  refine ev_b bX6_blocks_21_22 (lv' := [(0, .ref 0), (1, .int (nI (0))), (2, .int (nI (1)))]) (st' := [.ref 0]) (w2 := compW T S P U O B Q C R tl rf) rfl ?_
  refine ev_callV (Yc := mX6_chargeAndLift) (rng 0 49) dX6_blocks_22 tw_714 kX6_chargeAndLift (m_X6_chargeAndLift T S P U O B Q C R tl rf n hS hn) rfl (st := []) rfl rfl rfl (by decide) (same_hw (compW T S P U O B Q C R tl rf)) (by decide) (Nat.le_of_ble_eq_true rfl) (Nat.le_refl _) (Nat.le_refl _) (fun r w' h => by obtain ⟨-, O', rfl, -⟩ := h; exact Nat.le_refl 49) ?_
  rintro _ _ ⟨rfl, O1, rfl, hK1⟩
  refine ev_eq (lv' := [(0, .ref 0), (1, .int (nI (0))), (2, .int (nI (1)))]) (st' := []) (w' := compW T S P U O1 ((lfB S (itS S n) n)) Q C R tl rf) rfl rfl (same_xp (compW T S P U O B Q C R tl rf) (compW T S P U O1 ((lfB S (itS S n) n)) Q C R tl rf) rfl) ?_
  refine ev_b bX6_blocks_25_30 (lv' := [(0, .ref 0), (1, .int (nI (0))), (2, .int (nI (1)))]) (st' := [.int (nI (0)), .ref 30]) (w2 := compW T S P U O1 ((lfB S (itS S n) n)) Q C R tl rf) rfl ?_
  refine ev_callVN (Yc := mX0_payments) [30, 31, 32, 33, 34] dX6_blocks_30 tn_754 kX0_payments (m_X0_payments_0 (lfB S (itS S n) n)) rfl (st := []) rfl rfl rfl (by decide) hw_comp__30 (by decide) (Nat.le_of_ble_eq_true rfl) (Nat.le_refl _) (Nat.le_refl _) (fun r w' h => by obtain ⟨-, rfl⟩ := h; exact Nat.le_of_ble_eq_true rfl) ?_
  rintro _ _ ⟨rfl, rfl⟩
  refine ev_eq (lv' := [(0, .ref 0), (1, .int (nI (0))), (2, .int (nI (1)))]) (st' := [.ref 31]) (w' := compW T S P U O1 ((lfB S (itS S n) n)) Q C R tl rf) rfl rfl xp_comp__30 ?_
  refine ev_b bX6_blocks_33_39 (lv' := [(3, .ref 31), (0, .ref 0), (1, .int (nI (0))), (2, .int (nI (1)))]) (st' := [.ref 31, .ref 30]) (w2 := compW T S P U O1 ((lfB S (itS S n) n)) Q C R tl rf) rfl ?_
  refine ev_callVN (Yc := mX0_blocker) [30, 31, 32, 33, 34] dX6_blocks_39 tn_755 kX0_blocker (m_X0_blocker_0 (lfB S (itS S n) n) (lfBB hS (wonZ_b hS))) rfl (st := []) rfl rfl rfl (by decide) hw_comp__30 (by decide) (Nat.le_of_ble_eq_true rfl) (Nat.le_refl _) (Nat.le_refl _) (fun r w' h => by obtain ⟨-, rfl⟩ := h; exact Nat.le_of_ble_eq_true rfl) ?_
  rintro _ _ ⟨rfl, rfl⟩
  refine ev_eq (lv' := [(3, .ref 31), (0, .ref 0), (1, .int (nI (0))), (2, .int (nI (1)))]) (st' := [.int (zI ((blkTo (lfB S (itS S n) n) (BillN.wo (lfB S (itS S n) n)) 32).2))]) (w' := compW T S P U O1 ((lfB S (itS S n) n)) Q C R tl rf) rfl rfl xp_comp__30 ?_
  refine ev_top (y := (nI (g))) (by rw [show (blkTo (lfB S (itS S n) n) (BillN.wo (lfB S (itS S n) n)) 32).2 = ((g : Nat) : Int) from by exact blk_conv.trans hb]; exact zI_nat _) ?_
  refine ev_b bX6_blocks_42_45 (lv' := [(4, .int (nI (g))), (3, .ref 31), (0, .ref 0), (1, .int (nI (0))), (2, .int (nI (1)))]) (st' := [.int (nI (1))]) (w2 := compW T S P U O1 ((lfB S (itS S n) n)) Q C R tl rf) rfl ?_
  refine ev_if_ne_n (tgt := 51) (by decide) dX6_blocks_45 (by decide) (fun h45 => ?_) (fun h45 => (by exfalso; omega))
  refine ev_b bX6_blocks_51_55 (lv' := [(4, .int (nI (g))), (3, .ref 31), (0, .ref 0), (1, .int (nI (0))), (2, .int (nI (1)))]) (st' := [.int (-9), .int (nI (g))]) (w2 := compW T S P U O1 ((lfB S (itS S n) n)) Q C R tl rf) rfl ?_
  refine ev_top (y := zI (-9)) (by decide) ?_
  refine ev_top2 (y := zI (((g : Nat) : Int))) (zI_nat _).symm ?_
  refine ev_icmp_ne_z (tgt := 62) (by constructor <;> omega) (by constructor <;> omega) dX6_blocks_55 (by decide) (fun h55 => ?_) (fun h55 => (by exfalso; omega))
  refine ev_b bX6_blocks_62_69 (lv' := [(4, .int (nI (g))), (3, .ref 31), (0, .ref 0), (1, .int (nI (0))), (2, .int (nI (1)))]) (st' := [.int (nI (g)), .ref 31, .ref 30]) (w2 := compW T S P U O1 ((lfB S (itS S n) n)) Q C R tl rf) rfl ?_
  refine ev_callVN (Yc := mX0_excess) [30, 31, 32, 33, 34] dX6_blocks_69 tn_756 kX0_excess (m_X0_excess_0 (lfB S (itS S n) n) g hg) rfl (st := []) rfl rfl rfl (by decide) hw_comp__30 (by decide) (Nat.le_of_ble_eq_true rfl) (Nat.le_refl _) (Nat.le_refl _) (fun r w' h => by obtain ⟨-, rfl⟩ := h; exact Nat.le_of_ble_eq_true rfl) ?_
  rintro _ _ ⟨rfl, rfl⟩
  refine ev_eq (lv' := [(4, .int (nI (g))), (3, .ref 31), (0, .ref 0), (1, .int (nI (0))), (2, .int (nI (1)))]) (st' := [.int (zI (excZ (lfB S (itS S n) n) (BillN.wo (lfB S (itS S n) n)) g))]) (w' := compW T S P U O1 ((lfB S (itS S n) n)) Q C R tl rf) rfl rfl xp_comp__30 ?_
  refine ev_top (y := (zI (excS S (wonZ S) g))) (congrArg zI (show excZ (lfB S (itS S n) n) (BillN.wo (lfB S (itS S n) n)) g = excS S (wonZ S) g from by rfl)) ?_
  exact ev_iret dX6_blocks_72 rfl (Nat.le_refl 49) (Nat.le_refl _) (Nat.le_refl _) ⟨rfl, _, _, _, _, _, _, rfl, hQ, rfl, rfl⟩
set_option maxHeartbeats 4000000 in
set_option maxRecDepth 100000 in
theorem p_blocks_w1_0 {l : Launch} {E : XE} (T : TopN) (S P U : SaleN) (O : OutN) (B : BillN) (Q : SeaN) (C : ScrN) (R : PrtN) (tl rf : Nat → Nat) (n : Nat) (hS : SaleOK S) (hQ : Q.fd < 2147483648) (hn : LiftsTo S n) : MetE l E mX6_blocks (6) 0 0 [.ref 0, .int (nI (1)), .int (nI (0))] (compW T S P U O B Q C R tl rf) (CP T S P (C.lt) (C.sz) tl rf (some (.int (zI ((blkS S (paidZ S)).2))))) := by
  refine MetE.of (by decide +kernel) (Nat.le_of_ble_eq_true rfl) ?_
  have hca := hS.1
  have hpw := pow_ca hS
  have hac := ac_lt hS
  
  refine ev_eq (lv' := [(0, .ref 0), (1, .int (nI (1))), (2, .int (nI (0)))]) (st' := []) (w' := compW T S P U O B Q C R tl rf) rfl rfl rfl ?_
  refine ev_b bX6_blocks_0_1 (lv' := [(0, .ref 0), (1, .int (nI (1))), (2, .int (nI (0)))]) (st' := [.int (nI (1))]) (w2 := compW T S P U O B Q C R tl rf) rfl ?_
  refine ev_callS (Yc := mX6_isHow) [] dX6_blocks_1 tw_711 kX6_isHow m_X6_isHow_1 rfl (st := []) rfl (by decide) rfl (by decide) (Nat.le_of_ble_eq_true rfl) (Nat.le_refl _) (Nat.le_refl _) (fun r w' h => by obtain ⟨-, rfl⟩ := h; exact Nat.le_of_ble_eq_true rfl) ?_
  rintro _ _ ⟨rfl, rfl⟩
  refine ev_eq (lv' := [(0, .ref 0), (1, .int (nI (1))), (2, .int (nI (0)))]) (st' := [.int (nI (1))]) (w' := compW T S P U O B Q C R tl rf) rfl rfl rfl ?_
  refine ev_if_eq_n (tgt := 14) (by decide) dX6_blocks_4 (by decide) (fun h4 => (by exfalso; omega)) (fun h4 => ?_)
  refine ev_b bX6_blocks_7_8 (lv' := [(0, .ref 0), (1, .int (nI (1))), (2, .int (nI (0)))]) (st' := [.int (nI (0))]) (w2 := compW T S P U O B Q C R tl rf) rfl ?_
  refine ev_callS (Yc := mX6_isEither) [] dX6_blocks_8 tw_667 kX6_isEither m_X6_isEither_0 rfl (st := []) rfl (by decide) rfl (by decide) (Nat.le_of_ble_eq_true rfl) (Nat.le_refl _) (Nat.le_refl _) (fun r w' h => by obtain ⟨-, rfl⟩ := h; exact Nat.le_of_ble_eq_true rfl) ?_
  rintro _ _ ⟨rfl, rfl⟩
  refine ev_eq (lv' := [(0, .ref 0), (1, .int (nI (1))), (2, .int (nI (0)))]) (st' := [.int (nI (1))]) (w' := compW T S P U O B Q C R tl rf) rfl rfl rfl ?_
  refine ev_if_ne_n (tgt := 21) (by decide) dX6_blocks_11 (by decide) (fun h11 => ?_) (fun h11 => (by exfalso; omega))
  refine ev_b bX6_blocks_21_22 (lv' := [(0, .ref 0), (1, .int (nI (1))), (2, .int (nI (0)))]) (st' := [.ref 0]) (w2 := compW T S P U O B Q C R tl rf) rfl ?_
  refine ev_callV (Yc := mX6_chargeAndLift) (rng 0 49) dX6_blocks_22 tw_714 kX6_chargeAndLift (m_X6_chargeAndLift T S P U O B Q C R tl rf n hS hn) rfl (st := []) rfl rfl rfl (by decide) (same_hw (compW T S P U O B Q C R tl rf)) (by decide) (Nat.le_of_ble_eq_true rfl) (Nat.le_refl _) (Nat.le_refl _) (fun r w' h => by obtain ⟨-, O', rfl, -⟩ := h; exact Nat.le_refl 49) ?_
  rintro _ _ ⟨rfl, O1, rfl, hK1⟩
  refine ev_eq (lv' := [(0, .ref 0), (1, .int (nI (1))), (2, .int (nI (0)))]) (st' := []) (w' := compW T S P U O1 ((lfB S (itS S n) n)) Q C R tl rf) rfl rfl (same_xp (compW T S P U O B Q C R tl rf) (compW T S P U O1 ((lfB S (itS S n) n)) Q C R tl rf) rfl) ?_
  refine ev_b bX6_blocks_25_30 (lv' := [(0, .ref 0), (1, .int (nI (1))), (2, .int (nI (0)))]) (st' := [.int (nI (1)), .ref 30]) (w2 := compW T S P U O1 ((lfB S (itS S n) n)) Q C R tl rf) rfl ?_
  refine ev_callVN (Yc := mX0_payments) [30, 31, 32, 33, 34] dX6_blocks_30 tn_754 kX0_payments (m_X0_payments_1 (lfB S (itS S n) n)) rfl (st := []) rfl rfl rfl (by decide) hw_comp__30 (by decide) (Nat.le_of_ble_eq_true rfl) (Nat.le_refl _) (Nat.le_refl _) (fun r w' h => by obtain ⟨-, rfl⟩ := h; exact Nat.le_of_ble_eq_true rfl) ?_
  rintro _ _ ⟨rfl, rfl⟩
  refine ev_eq (lv' := [(0, .ref 0), (1, .int (nI (1))), (2, .int (nI (0)))]) (st' := [.ref 32]) (w' := compW T S P U O1 ((lfB S (itS S n) n)) Q C R tl rf) rfl rfl xp_comp__30 ?_
  refine ev_b bX6_blocks_33_39 (lv' := [(3, .ref 32), (0, .ref 0), (1, .int (nI (1))), (2, .int (nI (0)))]) (st' := [.ref 32, .ref 30]) (w2 := compW T S P U O1 ((lfB S (itS S n) n)) Q C R tl rf) rfl ?_
  refine ev_callVN (Yc := mX0_blocker) [30, 31, 32, 33, 34] dX6_blocks_39 tn_755 kX0_blocker (m_X0_blocker_1 (lfB S (itS S n) n) (lfBB hS (paid_b hS))) rfl (st := []) rfl rfl rfl (by decide) hw_comp__30 (by decide) (Nat.le_of_ble_eq_true rfl) (Nat.le_refl _) (Nat.le_refl _) (fun r w' h => by obtain ⟨-, rfl⟩ := h; exact Nat.le_of_ble_eq_true rfl) ?_
  rintro _ _ ⟨rfl, rfl⟩
  refine ev_eq (lv' := [(3, .ref 32), (0, .ref 0), (1, .int (nI (1))), (2, .int (nI (0)))]) (st' := [.int (zI ((blkTo (lfB S (itS S n) n) (BillN.ha (lfB S (itS S n) n)) 32).2))]) (w' := compW T S P U O1 ((lfB S (itS S n) n)) Q C R tl rf) rfl rfl xp_comp__30 ?_
  refine ev_top (y := (zI ((blkS S (paidZ S)).2))) (congrArg zI (show (blkTo (lfB S (itS S n) n) (BillN.ha (lfB S (itS S n) n)) 32).2 = (blkS S (paidZ S)).2 from by exact blk_conv)) ?_
  refine ev_b bX6_blocks_42_45 (lv' := [(4, .int (zI ((blkS S (paidZ S)).2))), (3, .ref 32), (0, .ref 0), (1, .int (nI (1))), (2, .int (nI (0)))]) (st' := [.int (nI (0))]) (w2 := compW T S P U O1 ((lfB S (itS S n) n)) Q C R tl rf) rfl ?_
  refine ev_if_ne_n (tgt := 51) (by decide) dX6_blocks_45 (by decide) (fun h45 => (by exfalso; omega)) (fun h45 => ?_)
  refine ev_b bX6_blocks_48_50 (lv' := [(4, .int (zI ((blkS S (paidZ S)).2))), (3, .ref 32), (0, .ref 0), (1, .int (nI (1))), (2, .int (nI (0)))]) (st' := [.int (zI ((blkS S (paidZ S)).2))]) (w2 := compW T S P U O1 ((lfB S (itS S n) n)) Q C R tl rf) rfl ?_
  exact ev_iret dX6_blocks_50 rfl (Nat.le_refl 49) (Nat.le_refl _) (Nat.le_refl _) ⟨rfl, _, _, _, _, _, _, rfl, hQ, rfl, rfl⟩
set_option maxHeartbeats 4000000 in
set_option maxRecDepth 100000 in
theorem p_blocks_w1_1n {l : Launch} {E : XE} (T : TopN) (S P U : SaleN) (O : OutN) (B : BillN) (Q : SeaN) (C : ScrN) (R : PrtN) (tl rf : Nat → Nat) (n : Nat) (hS : SaleOK S) (hQ : Q.fd < 2147483648) (hn : LiftsTo S n) (hb : (blkS S (paidZ S)).2 = -9) : MetE l E mX6_blocks (6) 0 0 [.ref 0, .int (nI (1)), .int (nI (1))] (compW T S P U O B Q C R tl rf) (CP T S P (C.lt) (C.sz) tl rf (some (.int (nI (0))))) := by
  refine MetE.of (by decide +kernel) (Nat.le_of_ble_eq_true rfl) ?_
  have hca := hS.1
  have hpw := pow_ca hS
  have hac := ac_lt hS
  
  refine ev_eq (lv' := [(0, .ref 0), (1, .int (nI (1))), (2, .int (nI (1)))]) (st' := []) (w' := compW T S P U O B Q C R tl rf) rfl rfl rfl ?_
  refine ev_b bX6_blocks_0_1 (lv' := [(0, .ref 0), (1, .int (nI (1))), (2, .int (nI (1)))]) (st' := [.int (nI (1))]) (w2 := compW T S P U O B Q C R tl rf) rfl ?_
  refine ev_callS (Yc := mX6_isHow) [] dX6_blocks_1 tw_711 kX6_isHow m_X6_isHow_1 rfl (st := []) rfl (by decide) rfl (by decide) (Nat.le_of_ble_eq_true rfl) (Nat.le_refl _) (Nat.le_refl _) (fun r w' h => by obtain ⟨-, rfl⟩ := h; exact Nat.le_of_ble_eq_true rfl) ?_
  rintro _ _ ⟨rfl, rfl⟩
  refine ev_eq (lv' := [(0, .ref 0), (1, .int (nI (1))), (2, .int (nI (1)))]) (st' := [.int (nI (1))]) (w' := compW T S P U O B Q C R tl rf) rfl rfl rfl ?_
  refine ev_if_eq_n (tgt := 14) (by decide) dX6_blocks_4 (by decide) (fun h4 => (by exfalso; omega)) (fun h4 => ?_)
  refine ev_b bX6_blocks_7_8 (lv' := [(0, .ref 0), (1, .int (nI (1))), (2, .int (nI (1)))]) (st' := [.int (nI (1))]) (w2 := compW T S P U O B Q C R tl rf) rfl ?_
  refine ev_callS (Yc := mX6_isEither) [] dX6_blocks_8 tw_667 kX6_isEither m_X6_isEither_1 rfl (st := []) rfl (by decide) rfl (by decide) (Nat.le_of_ble_eq_true rfl) (Nat.le_refl _) (Nat.le_refl _) (fun r w' h => by obtain ⟨-, rfl⟩ := h; exact Nat.le_of_ble_eq_true rfl) ?_
  rintro _ _ ⟨rfl, rfl⟩
  refine ev_eq (lv' := [(0, .ref 0), (1, .int (nI (1))), (2, .int (nI (1)))]) (st' := [.int (nI (1))]) (w' := compW T S P U O B Q C R tl rf) rfl rfl rfl ?_
  refine ev_if_ne_n (tgt := 21) (by decide) dX6_blocks_11 (by decide) (fun h11 => ?_) (fun h11 => (by exfalso; omega))
  refine ev_b bX6_blocks_21_22 (lv' := [(0, .ref 0), (1, .int (nI (1))), (2, .int (nI (1)))]) (st' := [.ref 0]) (w2 := compW T S P U O B Q C R tl rf) rfl ?_
  refine ev_callV (Yc := mX6_chargeAndLift) (rng 0 49) dX6_blocks_22 tw_714 kX6_chargeAndLift (m_X6_chargeAndLift T S P U O B Q C R tl rf n hS hn) rfl (st := []) rfl rfl rfl (by decide) (same_hw (compW T S P U O B Q C R tl rf)) (by decide) (Nat.le_of_ble_eq_true rfl) (Nat.le_refl _) (Nat.le_refl _) (fun r w' h => by obtain ⟨-, O', rfl, -⟩ := h; exact Nat.le_refl 49) ?_
  rintro _ _ ⟨rfl, O1, rfl, hK1⟩
  refine ev_eq (lv' := [(0, .ref 0), (1, .int (nI (1))), (2, .int (nI (1)))]) (st' := []) (w' := compW T S P U O1 ((lfB S (itS S n) n)) Q C R tl rf) rfl rfl (same_xp (compW T S P U O B Q C R tl rf) (compW T S P U O1 ((lfB S (itS S n) n)) Q C R tl rf) rfl) ?_
  refine ev_b bX6_blocks_25_30 (lv' := [(0, .ref 0), (1, .int (nI (1))), (2, .int (nI (1)))]) (st' := [.int (nI (1)), .ref 30]) (w2 := compW T S P U O1 ((lfB S (itS S n) n)) Q C R tl rf) rfl ?_
  refine ev_callVN (Yc := mX0_payments) [30, 31, 32, 33, 34] dX6_blocks_30 tn_754 kX0_payments (m_X0_payments_1 (lfB S (itS S n) n)) rfl (st := []) rfl rfl rfl (by decide) hw_comp__30 (by decide) (Nat.le_of_ble_eq_true rfl) (Nat.le_refl _) (Nat.le_refl _) (fun r w' h => by obtain ⟨-, rfl⟩ := h; exact Nat.le_of_ble_eq_true rfl) ?_
  rintro _ _ ⟨rfl, rfl⟩
  refine ev_eq (lv' := [(0, .ref 0), (1, .int (nI (1))), (2, .int (nI (1)))]) (st' := [.ref 32]) (w' := compW T S P U O1 ((lfB S (itS S n) n)) Q C R tl rf) rfl rfl xp_comp__30 ?_
  refine ev_b bX6_blocks_33_39 (lv' := [(3, .ref 32), (0, .ref 0), (1, .int (nI (1))), (2, .int (nI (1)))]) (st' := [.ref 32, .ref 30]) (w2 := compW T S P U O1 ((lfB S (itS S n) n)) Q C R tl rf) rfl ?_
  refine ev_callVN (Yc := mX0_blocker) [30, 31, 32, 33, 34] dX6_blocks_39 tn_755 kX0_blocker (m_X0_blocker_1 (lfB S (itS S n) n) (lfBB hS (paid_b hS))) rfl (st := []) rfl rfl rfl (by decide) hw_comp__30 (by decide) (Nat.le_of_ble_eq_true rfl) (Nat.le_refl _) (Nat.le_refl _) (fun r w' h => by obtain ⟨-, rfl⟩ := h; exact Nat.le_of_ble_eq_true rfl) ?_
  rintro _ _ ⟨rfl, rfl⟩
  refine ev_eq (lv' := [(3, .ref 32), (0, .ref 0), (1, .int (nI (1))), (2, .int (nI (1)))]) (st' := [.int (zI ((blkTo (lfB S (itS S n) n) (BillN.ha (lfB S (itS S n) n)) 32).2))]) (w' := compW T S P U O1 ((lfB S (itS S n) n)) Q C R tl rf) rfl rfl xp_comp__30 ?_
  refine ev_top (y := (zI (-9))) (congrArg zI (show (blkTo (lfB S (itS S n) n) (BillN.ha (lfB S (itS S n) n)) 32).2 = -9 from by exact blk_conv.trans hb)) ?_
  refine ev_b bX6_blocks_42_45 (lv' := [(4, .int (zI (-9))), (3, .ref 32), (0, .ref 0), (1, .int (nI (1))), (2, .int (nI (1)))]) (st' := [.int (nI (1))]) (w2 := compW T S P U O1 ((lfB S (itS S n) n)) Q C R tl rf) rfl ?_
  refine ev_if_ne_n (tgt := 51) (by decide) dX6_blocks_45 (by decide) (fun h45 => ?_) (fun h45 => (by exfalso; omega))
  refine ev_b bX6_blocks_51_55 (lv' := [(4, .int (zI (-9))), (3, .ref 32), (0, .ref 0), (1, .int (nI (1))), (2, .int (nI (1)))]) (st' := [.int (-9), .int (zI (-9))]) (w2 := compW T S P U O1 ((lfB S (itS S n) n)) Q C R tl rf) rfl ?_
  refine ev_top (y := zI (-9)) (by decide) ?_
  refine ev_icmp_ne_z (tgt := 62) (by constructor <;> omega) (by constructor <;> omega) dX6_blocks_55 (by decide) (fun h55 => (by exfalso; omega)) (fun h55 => ?_)
  refine ev_b bX6_blocks_58_72 (lv' := [(4, .int (zI (-9))), (3, .ref 32), (0, .ref 0), (1, .int (nI (1))), (2, .int (nI (1)))]) (st' := [.int (nI (0))]) (w2 := compW T S P U O1 ((lfB S (itS S n) n)) Q C R tl rf) rfl ?_
  exact ev_iret dX6_blocks_72 rfl (Nat.le_refl 49) (Nat.le_refl _) (Nat.le_refl _) ⟨rfl, _, _, _, _, _, _, rfl, hQ, rfl, rfl⟩
set_option maxHeartbeats 4000000 in
set_option maxRecDepth 100000 in
theorem p_blocks_w1_1s {l : Launch} {E : XE} (T : TopN) (S P U : SaleN) (O : OutN) (B : BillN) (Q : SeaN) (C : ScrN) (R : PrtN) (tl rf : Nat → Nat) (n g : Nat) (hS : SaleOK S) (hQ : Q.fd < 2147483648) (hn : LiftsTo S n) (hg : g < 32) (hb : (blkS S (paidZ S)).2 = ((g : Nat) : Int)) : MetE l E mX6_blocks (6) 0 0 [.ref 0, .int (nI (1)), .int (nI (1))] (compW T S P U O B Q C R tl rf) (CP T S P (C.lt) (C.sz) tl rf (some (.int (zI (excS S (paidZ S) g))))) := by
  refine MetE.of (by decide +kernel) (Nat.le_of_ble_eq_true rfl) ?_
  have hca := hS.1
  have hpw := pow_ca hS
  have hac := ac_lt hS
  
  refine ev_eq (lv' := [(0, .ref 0), (1, .int (nI (1))), (2, .int (nI (1)))]) (st' := []) (w' := compW T S P U O B Q C R tl rf) rfl rfl rfl ?_
  refine ev_b bX6_blocks_0_1 (lv' := [(0, .ref 0), (1, .int (nI (1))), (2, .int (nI (1)))]) (st' := [.int (nI (1))]) (w2 := compW T S P U O B Q C R tl rf) rfl ?_
  refine ev_callS (Yc := mX6_isHow) [] dX6_blocks_1 tw_711 kX6_isHow m_X6_isHow_1 rfl (st := []) rfl (by decide) rfl (by decide) (Nat.le_of_ble_eq_true rfl) (Nat.le_refl _) (Nat.le_refl _) (fun r w' h => by obtain ⟨-, rfl⟩ := h; exact Nat.le_of_ble_eq_true rfl) ?_
  rintro _ _ ⟨rfl, rfl⟩
  refine ev_eq (lv' := [(0, .ref 0), (1, .int (nI (1))), (2, .int (nI (1)))]) (st' := [.int (nI (1))]) (w' := compW T S P U O B Q C R tl rf) rfl rfl rfl ?_
  refine ev_if_eq_n (tgt := 14) (by decide) dX6_blocks_4 (by decide) (fun h4 => (by exfalso; omega)) (fun h4 => ?_)
  refine ev_b bX6_blocks_7_8 (lv' := [(0, .ref 0), (1, .int (nI (1))), (2, .int (nI (1)))]) (st' := [.int (nI (1))]) (w2 := compW T S P U O B Q C R tl rf) rfl ?_
  refine ev_callS (Yc := mX6_isEither) [] dX6_blocks_8 tw_667 kX6_isEither m_X6_isEither_1 rfl (st := []) rfl (by decide) rfl (by decide) (Nat.le_of_ble_eq_true rfl) (Nat.le_refl _) (Nat.le_refl _) (fun r w' h => by obtain ⟨-, rfl⟩ := h; exact Nat.le_of_ble_eq_true rfl) ?_
  rintro _ _ ⟨rfl, rfl⟩
  refine ev_eq (lv' := [(0, .ref 0), (1, .int (nI (1))), (2, .int (nI (1)))]) (st' := [.int (nI (1))]) (w' := compW T S P U O B Q C R tl rf) rfl rfl rfl ?_
  refine ev_if_ne_n (tgt := 21) (by decide) dX6_blocks_11 (by decide) (fun h11 => ?_) (fun h11 => (by exfalso; omega))
  refine ev_b bX6_blocks_21_22 (lv' := [(0, .ref 0), (1, .int (nI (1))), (2, .int (nI (1)))]) (st' := [.ref 0]) (w2 := compW T S P U O B Q C R tl rf) rfl ?_
  refine ev_callV (Yc := mX6_chargeAndLift) (rng 0 49) dX6_blocks_22 tw_714 kX6_chargeAndLift (m_X6_chargeAndLift T S P U O B Q C R tl rf n hS hn) rfl (st := []) rfl rfl rfl (by decide) (same_hw (compW T S P U O B Q C R tl rf)) (by decide) (Nat.le_of_ble_eq_true rfl) (Nat.le_refl _) (Nat.le_refl _) (fun r w' h => by obtain ⟨-, O', rfl, -⟩ := h; exact Nat.le_refl 49) ?_
  rintro _ _ ⟨rfl, O1, rfl, hK1⟩
  refine ev_eq (lv' := [(0, .ref 0), (1, .int (nI (1))), (2, .int (nI (1)))]) (st' := []) (w' := compW T S P U O1 ((lfB S (itS S n) n)) Q C R tl rf) rfl rfl (same_xp (compW T S P U O B Q C R tl rf) (compW T S P U O1 ((lfB S (itS S n) n)) Q C R tl rf) rfl) ?_
  refine ev_b bX6_blocks_25_30 (lv' := [(0, .ref 0), (1, .int (nI (1))), (2, .int (nI (1)))]) (st' := [.int (nI (1)), .ref 30]) (w2 := compW T S P U O1 ((lfB S (itS S n) n)) Q C R tl rf) rfl ?_
  refine ev_callVN (Yc := mX0_payments) [30, 31, 32, 33, 34] dX6_blocks_30 tn_754 kX0_payments (m_X0_payments_1 (lfB S (itS S n) n)) rfl (st := []) rfl rfl rfl (by decide) hw_comp__30 (by decide) (Nat.le_of_ble_eq_true rfl) (Nat.le_refl _) (Nat.le_refl _) (fun r w' h => by obtain ⟨-, rfl⟩ := h; exact Nat.le_of_ble_eq_true rfl) ?_
  rintro _ _ ⟨rfl, rfl⟩
  refine ev_eq (lv' := [(0, .ref 0), (1, .int (nI (1))), (2, .int (nI (1)))]) (st' := [.ref 32]) (w' := compW T S P U O1 ((lfB S (itS S n) n)) Q C R tl rf) rfl rfl xp_comp__30 ?_
  refine ev_b bX6_blocks_33_39 (lv' := [(3, .ref 32), (0, .ref 0), (1, .int (nI (1))), (2, .int (nI (1)))]) (st' := [.ref 32, .ref 30]) (w2 := compW T S P U O1 ((lfB S (itS S n) n)) Q C R tl rf) rfl ?_
  refine ev_callVN (Yc := mX0_blocker) [30, 31, 32, 33, 34] dX6_blocks_39 tn_755 kX0_blocker (m_X0_blocker_1 (lfB S (itS S n) n) (lfBB hS (paid_b hS))) rfl (st := []) rfl rfl rfl (by decide) hw_comp__30 (by decide) (Nat.le_of_ble_eq_true rfl) (Nat.le_refl _) (Nat.le_refl _) (fun r w' h => by obtain ⟨-, rfl⟩ := h; exact Nat.le_of_ble_eq_true rfl) ?_
  rintro _ _ ⟨rfl, rfl⟩
  refine ev_eq (lv' := [(3, .ref 32), (0, .ref 0), (1, .int (nI (1))), (2, .int (nI (1)))]) (st' := [.int (zI ((blkTo (lfB S (itS S n) n) (BillN.ha (lfB S (itS S n) n)) 32).2))]) (w' := compW T S P U O1 ((lfB S (itS S n) n)) Q C R tl rf) rfl rfl xp_comp__30 ?_
  refine ev_top (y := (nI (g))) (by rw [show (blkTo (lfB S (itS S n) n) (BillN.ha (lfB S (itS S n) n)) 32).2 = ((g : Nat) : Int) from by exact blk_conv.trans hb]; exact zI_nat _) ?_
  refine ev_b bX6_blocks_42_45 (lv' := [(4, .int (nI (g))), (3, .ref 32), (0, .ref 0), (1, .int (nI (1))), (2, .int (nI (1)))]) (st' := [.int (nI (1))]) (w2 := compW T S P U O1 ((lfB S (itS S n) n)) Q C R tl rf) rfl ?_
  refine ev_if_ne_n (tgt := 51) (by decide) dX6_blocks_45 (by decide) (fun h45 => ?_) (fun h45 => (by exfalso; omega))
  refine ev_b bX6_blocks_51_55 (lv' := [(4, .int (nI (g))), (3, .ref 32), (0, .ref 0), (1, .int (nI (1))), (2, .int (nI (1)))]) (st' := [.int (-9), .int (nI (g))]) (w2 := compW T S P U O1 ((lfB S (itS S n) n)) Q C R tl rf) rfl ?_
  refine ev_top (y := zI (-9)) (by decide) ?_
  refine ev_top2 (y := zI (((g : Nat) : Int))) (zI_nat _).symm ?_
  refine ev_icmp_ne_z (tgt := 62) (by constructor <;> omega) (by constructor <;> omega) dX6_blocks_55 (by decide) (fun h55 => ?_) (fun h55 => (by exfalso; omega))
  refine ev_b bX6_blocks_62_69 (lv' := [(4, .int (nI (g))), (3, .ref 32), (0, .ref 0), (1, .int (nI (1))), (2, .int (nI (1)))]) (st' := [.int (nI (g)), .ref 32, .ref 30]) (w2 := compW T S P U O1 ((lfB S (itS S n) n)) Q C R tl rf) rfl ?_
  refine ev_callVN (Yc := mX0_excess) [30, 31, 32, 33, 34] dX6_blocks_69 tn_756 kX0_excess (m_X0_excess_1 (lfB S (itS S n) n) g hg) rfl (st := []) rfl rfl rfl (by decide) hw_comp__30 (by decide) (Nat.le_of_ble_eq_true rfl) (Nat.le_refl _) (Nat.le_refl _) (fun r w' h => by obtain ⟨-, rfl⟩ := h; exact Nat.le_of_ble_eq_true rfl) ?_
  rintro _ _ ⟨rfl, rfl⟩
  refine ev_eq (lv' := [(4, .int (nI (g))), (3, .ref 32), (0, .ref 0), (1, .int (nI (1))), (2, .int (nI (1)))]) (st' := [.int (zI (excZ (lfB S (itS S n) n) (BillN.ha (lfB S (itS S n) n)) g))]) (w' := compW T S P U O1 ((lfB S (itS S n) n)) Q C R tl rf) rfl rfl xp_comp__30 ?_
  refine ev_top (y := (zI (excS S (paidZ S) g))) (congrArg zI (show excZ (lfB S (itS S n) n) (BillN.ha (lfB S (itS S n) n)) g = excS S (paidZ S) g from by rfl)) ?_
  exact ev_iret dX6_blocks_72 rfl (Nat.le_refl 49) (Nat.le_refl _) (Nat.le_refl _) ⟨rfl, _, _, _, _, _, _, rfl, hQ, rfl, rfl⟩
set_option maxHeartbeats 4000000 in
set_option maxRecDepth 100000 in
theorem p_blocks_w2_0 {l : Launch} {E : XE} (T : TopN) (S P U : SaleN) (O : OutN) (B : BillN) (Q : SeaN) (C : ScrN) (R : PrtN) (tl rf : Nat → Nat) (n : Nat) (hS : SaleOK S) (hQ : Q.fd < 2147483648) (hn : LiftsTo S n) : MetE l E mX6_blocks (6) 0 0 [.ref 0, .int (nI (2)), .int (nI (0))] (compW T S P U O B Q C R tl rf) (CP T S P (C.lt) (C.sz) tl rf (some (.int (zI ((blkS S (itS S n)).2))))) := by
  refine MetE.of (by decide +kernel) (Nat.le_of_ble_eq_true rfl) ?_
  have hca := hS.1
  have hpw := pow_ca hS
  have hac := ac_lt hS
  
  refine ev_eq (lv' := [(0, .ref 0), (1, .int (nI (2))), (2, .int (nI (0)))]) (st' := []) (w' := compW T S P U O B Q C R tl rf) rfl rfl rfl ?_
  refine ev_b bX6_blocks_0_1 (lv' := [(0, .ref 0), (1, .int (nI (2))), (2, .int (nI (0)))]) (st' := [.int (nI (2))]) (w2 := compW T S P U O B Q C R tl rf) rfl ?_
  refine ev_callS (Yc := mX6_isHow) [] dX6_blocks_1 tw_711 kX6_isHow m_X6_isHow_2 rfl (st := []) rfl (by decide) rfl (by decide) (Nat.le_of_ble_eq_true rfl) (Nat.le_refl _) (Nat.le_refl _) (fun r w' h => by obtain ⟨-, rfl⟩ := h; exact Nat.le_of_ble_eq_true rfl) ?_
  rintro _ _ ⟨rfl, rfl⟩
  refine ev_eq (lv' := [(0, .ref 0), (1, .int (nI (2))), (2, .int (nI (0)))]) (st' := [.int (nI (1))]) (w' := compW T S P U O B Q C R tl rf) rfl rfl rfl ?_
  refine ev_if_eq_n (tgt := 14) (by decide) dX6_blocks_4 (by decide) (fun h4 => (by exfalso; omega)) (fun h4 => ?_)
  refine ev_b bX6_blocks_7_8 (lv' := [(0, .ref 0), (1, .int (nI (2))), (2, .int (nI (0)))]) (st' := [.int (nI (0))]) (w2 := compW T S P U O B Q C R tl rf) rfl ?_
  refine ev_callS (Yc := mX6_isEither) [] dX6_blocks_8 tw_667 kX6_isEither m_X6_isEither_0 rfl (st := []) rfl (by decide) rfl (by decide) (Nat.le_of_ble_eq_true rfl) (Nat.le_refl _) (Nat.le_refl _) (fun r w' h => by obtain ⟨-, rfl⟩ := h; exact Nat.le_of_ble_eq_true rfl) ?_
  rintro _ _ ⟨rfl, rfl⟩
  refine ev_eq (lv' := [(0, .ref 0), (1, .int (nI (2))), (2, .int (nI (0)))]) (st' := [.int (nI (1))]) (w' := compW T S P U O B Q C R tl rf) rfl rfl rfl ?_
  refine ev_if_ne_n (tgt := 21) (by decide) dX6_blocks_11 (by decide) (fun h11 => ?_) (fun h11 => (by exfalso; omega))
  refine ev_b bX6_blocks_21_22 (lv' := [(0, .ref 0), (1, .int (nI (2))), (2, .int (nI (0)))]) (st' := [.ref 0]) (w2 := compW T S P U O B Q C R tl rf) rfl ?_
  refine ev_callV (Yc := mX6_chargeAndLift) (rng 0 49) dX6_blocks_22 tw_714 kX6_chargeAndLift (m_X6_chargeAndLift T S P U O B Q C R tl rf n hS hn) rfl (st := []) rfl rfl rfl (by decide) (same_hw (compW T S P U O B Q C R tl rf)) (by decide) (Nat.le_of_ble_eq_true rfl) (Nat.le_refl _) (Nat.le_refl _) (fun r w' h => by obtain ⟨-, O', rfl, -⟩ := h; exact Nat.le_refl 49) ?_
  rintro _ _ ⟨rfl, O1, rfl, hK1⟩
  refine ev_eq (lv' := [(0, .ref 0), (1, .int (nI (2))), (2, .int (nI (0)))]) (st' := []) (w' := compW T S P U O1 ((lfB S (itS S n) n)) Q C R tl rf) rfl rfl (same_xp (compW T S P U O B Q C R tl rf) (compW T S P U O1 ((lfB S (itS S n) n)) Q C R tl rf) rfl) ?_
  refine ev_b bX6_blocks_25_30 (lv' := [(0, .ref 0), (1, .int (nI (2))), (2, .int (nI (0)))]) (st' := [.int (nI (2)), .ref 30]) (w2 := compW T S P U O1 ((lfB S (itS S n) n)) Q C R tl rf) rfl ?_
  refine ev_callVN (Yc := mX0_payments) [30, 31, 32, 33, 34] dX6_blocks_30 tn_754 kX0_payments (m_X0_payments_2 (lfB S (itS S n) n)) rfl (st := []) rfl rfl rfl (by decide) hw_comp__30 (by decide) (Nat.le_of_ble_eq_true rfl) (Nat.le_refl _) (Nat.le_refl _) (fun r w' h => by obtain ⟨-, rfl⟩ := h; exact Nat.le_of_ble_eq_true rfl) ?_
  rintro _ _ ⟨rfl, rfl⟩
  refine ev_eq (lv' := [(0, .ref 0), (1, .int (nI (2))), (2, .int (nI (0)))]) (st' := [.ref 33]) (w' := compW T S P U O1 ((lfB S (itS S n) n)) Q C R tl rf) rfl rfl xp_comp__30 ?_
  refine ev_b bX6_blocks_33_39 (lv' := [(3, .ref 33), (0, .ref 0), (1, .int (nI (2))), (2, .int (nI (0)))]) (st' := [.ref 33, .ref 30]) (w2 := compW T S P U O1 ((lfB S (itS S n) n)) Q C R tl rf) rfl ?_
  refine ev_callVN (Yc := mX0_blocker) [30, 31, 32, 33, 34] dX6_blocks_39 tn_755 kX0_blocker (m_X0_blocker_2 (lfB S (itS S n) n) (lfBB hS (it_b hS hn))) rfl (st := []) rfl rfl rfl (by decide) hw_comp__30 (by decide) (Nat.le_of_ble_eq_true rfl) (Nat.le_refl _) (Nat.le_refl _) (fun r w' h => by obtain ⟨-, rfl⟩ := h; exact Nat.le_of_ble_eq_true rfl) ?_
  rintro _ _ ⟨rfl, rfl⟩
  refine ev_eq (lv' := [(3, .ref 33), (0, .ref 0), (1, .int (nI (2))), (2, .int (nI (0)))]) (st' := [.int (zI ((blkTo (lfB S (itS S n) n) (BillN.li (lfB S (itS S n) n)) 32).2))]) (w' := compW T S P U O1 ((lfB S (itS S n) n)) Q C R tl rf) rfl rfl xp_comp__30 ?_
  refine ev_top (y := (zI ((blkS S (itS S n)).2))) (congrArg zI (show (blkTo (lfB S (itS S n) n) (BillN.li (lfB S (itS S n) n)) 32).2 = (blkS S (itS S n)).2 from by exact blk_conv)) ?_
  refine ev_b bX6_blocks_42_45 (lv' := [(4, .int (zI ((blkS S (itS S n)).2))), (3, .ref 33), (0, .ref 0), (1, .int (nI (2))), (2, .int (nI (0)))]) (st' := [.int (nI (0))]) (w2 := compW T S P U O1 ((lfB S (itS S n) n)) Q C R tl rf) rfl ?_
  refine ev_if_ne_n (tgt := 51) (by decide) dX6_blocks_45 (by decide) (fun h45 => (by exfalso; omega)) (fun h45 => ?_)
  refine ev_b bX6_blocks_48_50 (lv' := [(4, .int (zI ((blkS S (itS S n)).2))), (3, .ref 33), (0, .ref 0), (1, .int (nI (2))), (2, .int (nI (0)))]) (st' := [.int (zI ((blkS S (itS S n)).2))]) (w2 := compW T S P U O1 ((lfB S (itS S n) n)) Q C R tl rf) rfl ?_
  exact ev_iret dX6_blocks_50 rfl (Nat.le_refl 49) (Nat.le_refl _) (Nat.le_refl _) ⟨rfl, _, _, _, _, _, _, rfl, hQ, rfl, rfl⟩
set_option maxHeartbeats 4000000 in
set_option maxRecDepth 100000 in
theorem p_blocks_w2_1n {l : Launch} {E : XE} (T : TopN) (S P U : SaleN) (O : OutN) (B : BillN) (Q : SeaN) (C : ScrN) (R : PrtN) (tl rf : Nat → Nat) (n : Nat) (hS : SaleOK S) (hQ : Q.fd < 2147483648) (hn : LiftsTo S n) (hb : (blkS S (itS S n)).2 = -9) : MetE l E mX6_blocks (6) 0 0 [.ref 0, .int (nI (2)), .int (nI (1))] (compW T S P U O B Q C R tl rf) (CP T S P (C.lt) (C.sz) tl rf (some (.int (nI (0))))) := by
  refine MetE.of (by decide +kernel) (Nat.le_of_ble_eq_true rfl) ?_
  have hca := hS.1
  have hpw := pow_ca hS
  have hac := ac_lt hS
  
  refine ev_eq (lv' := [(0, .ref 0), (1, .int (nI (2))), (2, .int (nI (1)))]) (st' := []) (w' := compW T S P U O B Q C R tl rf) rfl rfl rfl ?_
  refine ev_b bX6_blocks_0_1 (lv' := [(0, .ref 0), (1, .int (nI (2))), (2, .int (nI (1)))]) (st' := [.int (nI (2))]) (w2 := compW T S P U O B Q C R tl rf) rfl ?_
  refine ev_callS (Yc := mX6_isHow) [] dX6_blocks_1 tw_711 kX6_isHow m_X6_isHow_2 rfl (st := []) rfl (by decide) rfl (by decide) (Nat.le_of_ble_eq_true rfl) (Nat.le_refl _) (Nat.le_refl _) (fun r w' h => by obtain ⟨-, rfl⟩ := h; exact Nat.le_of_ble_eq_true rfl) ?_
  rintro _ _ ⟨rfl, rfl⟩
  refine ev_eq (lv' := [(0, .ref 0), (1, .int (nI (2))), (2, .int (nI (1)))]) (st' := [.int (nI (1))]) (w' := compW T S P U O B Q C R tl rf) rfl rfl rfl ?_
  refine ev_if_eq_n (tgt := 14) (by decide) dX6_blocks_4 (by decide) (fun h4 => (by exfalso; omega)) (fun h4 => ?_)
  refine ev_b bX6_blocks_7_8 (lv' := [(0, .ref 0), (1, .int (nI (2))), (2, .int (nI (1)))]) (st' := [.int (nI (1))]) (w2 := compW T S P U O B Q C R tl rf) rfl ?_
  refine ev_callS (Yc := mX6_isEither) [] dX6_blocks_8 tw_667 kX6_isEither m_X6_isEither_1 rfl (st := []) rfl (by decide) rfl (by decide) (Nat.le_of_ble_eq_true rfl) (Nat.le_refl _) (Nat.le_refl _) (fun r w' h => by obtain ⟨-, rfl⟩ := h; exact Nat.le_of_ble_eq_true rfl) ?_
  rintro _ _ ⟨rfl, rfl⟩
  refine ev_eq (lv' := [(0, .ref 0), (1, .int (nI (2))), (2, .int (nI (1)))]) (st' := [.int (nI (1))]) (w' := compW T S P U O B Q C R tl rf) rfl rfl rfl ?_
  refine ev_if_ne_n (tgt := 21) (by decide) dX6_blocks_11 (by decide) (fun h11 => ?_) (fun h11 => (by exfalso; omega))
  refine ev_b bX6_blocks_21_22 (lv' := [(0, .ref 0), (1, .int (nI (2))), (2, .int (nI (1)))]) (st' := [.ref 0]) (w2 := compW T S P U O B Q C R tl rf) rfl ?_
  refine ev_callV (Yc := mX6_chargeAndLift) (rng 0 49) dX6_blocks_22 tw_714 kX6_chargeAndLift (m_X6_chargeAndLift T S P U O B Q C R tl rf n hS hn) rfl (st := []) rfl rfl rfl (by decide) (same_hw (compW T S P U O B Q C R tl rf)) (by decide) (Nat.le_of_ble_eq_true rfl) (Nat.le_refl _) (Nat.le_refl _) (fun r w' h => by obtain ⟨-, O', rfl, -⟩ := h; exact Nat.le_refl 49) ?_
  rintro _ _ ⟨rfl, O1, rfl, hK1⟩
  refine ev_eq (lv' := [(0, .ref 0), (1, .int (nI (2))), (2, .int (nI (1)))]) (st' := []) (w' := compW T S P U O1 ((lfB S (itS S n) n)) Q C R tl rf) rfl rfl (same_xp (compW T S P U O B Q C R tl rf) (compW T S P U O1 ((lfB S (itS S n) n)) Q C R tl rf) rfl) ?_
  refine ev_b bX6_blocks_25_30 (lv' := [(0, .ref 0), (1, .int (nI (2))), (2, .int (nI (1)))]) (st' := [.int (nI (2)), .ref 30]) (w2 := compW T S P U O1 ((lfB S (itS S n) n)) Q C R tl rf) rfl ?_
  refine ev_callVN (Yc := mX0_payments) [30, 31, 32, 33, 34] dX6_blocks_30 tn_754 kX0_payments (m_X0_payments_2 (lfB S (itS S n) n)) rfl (st := []) rfl rfl rfl (by decide) hw_comp__30 (by decide) (Nat.le_of_ble_eq_true rfl) (Nat.le_refl _) (Nat.le_refl _) (fun r w' h => by obtain ⟨-, rfl⟩ := h; exact Nat.le_of_ble_eq_true rfl) ?_
  rintro _ _ ⟨rfl, rfl⟩
  refine ev_eq (lv' := [(0, .ref 0), (1, .int (nI (2))), (2, .int (nI (1)))]) (st' := [.ref 33]) (w' := compW T S P U O1 ((lfB S (itS S n) n)) Q C R tl rf) rfl rfl xp_comp__30 ?_
  refine ev_b bX6_blocks_33_39 (lv' := [(3, .ref 33), (0, .ref 0), (1, .int (nI (2))), (2, .int (nI (1)))]) (st' := [.ref 33, .ref 30]) (w2 := compW T S P U O1 ((lfB S (itS S n) n)) Q C R tl rf) rfl ?_
  refine ev_callVN (Yc := mX0_blocker) [30, 31, 32, 33, 34] dX6_blocks_39 tn_755 kX0_blocker (m_X0_blocker_2 (lfB S (itS S n) n) (lfBB hS (it_b hS hn))) rfl (st := []) rfl rfl rfl (by decide) hw_comp__30 (by decide) (Nat.le_of_ble_eq_true rfl) (Nat.le_refl _) (Nat.le_refl _) (fun r w' h => by obtain ⟨-, rfl⟩ := h; exact Nat.le_of_ble_eq_true rfl) ?_
  rintro _ _ ⟨rfl, rfl⟩
  refine ev_eq (lv' := [(3, .ref 33), (0, .ref 0), (1, .int (nI (2))), (2, .int (nI (1)))]) (st' := [.int (zI ((blkTo (lfB S (itS S n) n) (BillN.li (lfB S (itS S n) n)) 32).2))]) (w' := compW T S P U O1 ((lfB S (itS S n) n)) Q C R tl rf) rfl rfl xp_comp__30 ?_
  refine ev_top (y := (zI (-9))) (congrArg zI (show (blkTo (lfB S (itS S n) n) (BillN.li (lfB S (itS S n) n)) 32).2 = -9 from by exact blk_conv.trans hb)) ?_
  refine ev_b bX6_blocks_42_45 (lv' := [(4, .int (zI (-9))), (3, .ref 33), (0, .ref 0), (1, .int (nI (2))), (2, .int (nI (1)))]) (st' := [.int (nI (1))]) (w2 := compW T S P U O1 ((lfB S (itS S n) n)) Q C R tl rf) rfl ?_
  refine ev_if_ne_n (tgt := 51) (by decide) dX6_blocks_45 (by decide) (fun h45 => ?_) (fun h45 => (by exfalso; omega))
  refine ev_b bX6_blocks_51_55 (lv' := [(4, .int (zI (-9))), (3, .ref 33), (0, .ref 0), (1, .int (nI (2))), (2, .int (nI (1)))]) (st' := [.int (-9), .int (zI (-9))]) (w2 := compW T S P U O1 ((lfB S (itS S n) n)) Q C R tl rf) rfl ?_
  refine ev_top (y := zI (-9)) (by decide) ?_
  refine ev_icmp_ne_z (tgt := 62) (by constructor <;> omega) (by constructor <;> omega) dX6_blocks_55 (by decide) (fun h55 => (by exfalso; omega)) (fun h55 => ?_)
  refine ev_b bX6_blocks_58_72 (lv' := [(4, .int (zI (-9))), (3, .ref 33), (0, .ref 0), (1, .int (nI (2))), (2, .int (nI (1)))]) (st' := [.int (nI (0))]) (w2 := compW T S P U O1 ((lfB S (itS S n) n)) Q C R tl rf) rfl ?_
  exact ev_iret dX6_blocks_72 rfl (Nat.le_refl 49) (Nat.le_refl _) (Nat.le_refl _) ⟨rfl, _, _, _, _, _, _, rfl, hQ, rfl, rfl⟩
set_option maxHeartbeats 4000000 in
set_option maxRecDepth 100000 in
theorem p_blocks_w2_1s {l : Launch} {E : XE} (T : TopN) (S P U : SaleN) (O : OutN) (B : BillN) (Q : SeaN) (C : ScrN) (R : PrtN) (tl rf : Nat → Nat) (n g : Nat) (hS : SaleOK S) (hQ : Q.fd < 2147483648) (hn : LiftsTo S n) (hg : g < 32) (hb : (blkS S (itS S n)).2 = ((g : Nat) : Int)) : MetE l E mX6_blocks (6) 0 0 [.ref 0, .int (nI (2)), .int (nI (1))] (compW T S P U O B Q C R tl rf) (CP T S P (C.lt) (C.sz) tl rf (some (.int (zI (excS S (itS S n) g))))) := by
  refine MetE.of (by decide +kernel) (Nat.le_of_ble_eq_true rfl) ?_
  have hca := hS.1
  have hpw := pow_ca hS
  have hac := ac_lt hS
  
  refine ev_eq (lv' := [(0, .ref 0), (1, .int (nI (2))), (2, .int (nI (1)))]) (st' := []) (w' := compW T S P U O B Q C R tl rf) rfl rfl rfl ?_
  refine ev_b bX6_blocks_0_1 (lv' := [(0, .ref 0), (1, .int (nI (2))), (2, .int (nI (1)))]) (st' := [.int (nI (2))]) (w2 := compW T S P U O B Q C R tl rf) rfl ?_
  refine ev_callS (Yc := mX6_isHow) [] dX6_blocks_1 tw_711 kX6_isHow m_X6_isHow_2 rfl (st := []) rfl (by decide) rfl (by decide) (Nat.le_of_ble_eq_true rfl) (Nat.le_refl _) (Nat.le_refl _) (fun r w' h => by obtain ⟨-, rfl⟩ := h; exact Nat.le_of_ble_eq_true rfl) ?_
  rintro _ _ ⟨rfl, rfl⟩
  refine ev_eq (lv' := [(0, .ref 0), (1, .int (nI (2))), (2, .int (nI (1)))]) (st' := [.int (nI (1))]) (w' := compW T S P U O B Q C R tl rf) rfl rfl rfl ?_
  refine ev_if_eq_n (tgt := 14) (by decide) dX6_blocks_4 (by decide) (fun h4 => (by exfalso; omega)) (fun h4 => ?_)
  refine ev_b bX6_blocks_7_8 (lv' := [(0, .ref 0), (1, .int (nI (2))), (2, .int (nI (1)))]) (st' := [.int (nI (1))]) (w2 := compW T S P U O B Q C R tl rf) rfl ?_
  refine ev_callS (Yc := mX6_isEither) [] dX6_blocks_8 tw_667 kX6_isEither m_X6_isEither_1 rfl (st := []) rfl (by decide) rfl (by decide) (Nat.le_of_ble_eq_true rfl) (Nat.le_refl _) (Nat.le_refl _) (fun r w' h => by obtain ⟨-, rfl⟩ := h; exact Nat.le_of_ble_eq_true rfl) ?_
  rintro _ _ ⟨rfl, rfl⟩
  refine ev_eq (lv' := [(0, .ref 0), (1, .int (nI (2))), (2, .int (nI (1)))]) (st' := [.int (nI (1))]) (w' := compW T S P U O B Q C R tl rf) rfl rfl rfl ?_
  refine ev_if_ne_n (tgt := 21) (by decide) dX6_blocks_11 (by decide) (fun h11 => ?_) (fun h11 => (by exfalso; omega))
  refine ev_b bX6_blocks_21_22 (lv' := [(0, .ref 0), (1, .int (nI (2))), (2, .int (nI (1)))]) (st' := [.ref 0]) (w2 := compW T S P U O B Q C R tl rf) rfl ?_
  refine ev_callV (Yc := mX6_chargeAndLift) (rng 0 49) dX6_blocks_22 tw_714 kX6_chargeAndLift (m_X6_chargeAndLift T S P U O B Q C R tl rf n hS hn) rfl (st := []) rfl rfl rfl (by decide) (same_hw (compW T S P U O B Q C R tl rf)) (by decide) (Nat.le_of_ble_eq_true rfl) (Nat.le_refl _) (Nat.le_refl _) (fun r w' h => by obtain ⟨-, O', rfl, -⟩ := h; exact Nat.le_refl 49) ?_
  rintro _ _ ⟨rfl, O1, rfl, hK1⟩
  refine ev_eq (lv' := [(0, .ref 0), (1, .int (nI (2))), (2, .int (nI (1)))]) (st' := []) (w' := compW T S P U O1 ((lfB S (itS S n) n)) Q C R tl rf) rfl rfl (same_xp (compW T S P U O B Q C R tl rf) (compW T S P U O1 ((lfB S (itS S n) n)) Q C R tl rf) rfl) ?_
  refine ev_b bX6_blocks_25_30 (lv' := [(0, .ref 0), (1, .int (nI (2))), (2, .int (nI (1)))]) (st' := [.int (nI (2)), .ref 30]) (w2 := compW T S P U O1 ((lfB S (itS S n) n)) Q C R tl rf) rfl ?_
  refine ev_callVN (Yc := mX0_payments) [30, 31, 32, 33, 34] dX6_blocks_30 tn_754 kX0_payments (m_X0_payments_2 (lfB S (itS S n) n)) rfl (st := []) rfl rfl rfl (by decide) hw_comp__30 (by decide) (Nat.le_of_ble_eq_true rfl) (Nat.le_refl _) (Nat.le_refl _) (fun r w' h => by obtain ⟨-, rfl⟩ := h; exact Nat.le_of_ble_eq_true rfl) ?_
  rintro _ _ ⟨rfl, rfl⟩
  refine ev_eq (lv' := [(0, .ref 0), (1, .int (nI (2))), (2, .int (nI (1)))]) (st' := [.ref 33]) (w' := compW T S P U O1 ((lfB S (itS S n) n)) Q C R tl rf) rfl rfl xp_comp__30 ?_
  refine ev_b bX6_blocks_33_39 (lv' := [(3, .ref 33), (0, .ref 0), (1, .int (nI (2))), (2, .int (nI (1)))]) (st' := [.ref 33, .ref 30]) (w2 := compW T S P U O1 ((lfB S (itS S n) n)) Q C R tl rf) rfl ?_
  refine ev_callVN (Yc := mX0_blocker) [30, 31, 32, 33, 34] dX6_blocks_39 tn_755 kX0_blocker (m_X0_blocker_2 (lfB S (itS S n) n) (lfBB hS (it_b hS hn))) rfl (st := []) rfl rfl rfl (by decide) hw_comp__30 (by decide) (Nat.le_of_ble_eq_true rfl) (Nat.le_refl _) (Nat.le_refl _) (fun r w' h => by obtain ⟨-, rfl⟩ := h; exact Nat.le_of_ble_eq_true rfl) ?_
  rintro _ _ ⟨rfl, rfl⟩
  refine ev_eq (lv' := [(3, .ref 33), (0, .ref 0), (1, .int (nI (2))), (2, .int (nI (1)))]) (st' := [.int (zI ((blkTo (lfB S (itS S n) n) (BillN.li (lfB S (itS S n) n)) 32).2))]) (w' := compW T S P U O1 ((lfB S (itS S n) n)) Q C R tl rf) rfl rfl xp_comp__30 ?_
  refine ev_top (y := (nI (g))) (by rw [show (blkTo (lfB S (itS S n) n) (BillN.li (lfB S (itS S n) n)) 32).2 = ((g : Nat) : Int) from by exact blk_conv.trans hb]; exact zI_nat _) ?_
  refine ev_b bX6_blocks_42_45 (lv' := [(4, .int (nI (g))), (3, .ref 33), (0, .ref 0), (1, .int (nI (2))), (2, .int (nI (1)))]) (st' := [.int (nI (1))]) (w2 := compW T S P U O1 ((lfB S (itS S n) n)) Q C R tl rf) rfl ?_
  refine ev_if_ne_n (tgt := 51) (by decide) dX6_blocks_45 (by decide) (fun h45 => ?_) (fun h45 => (by exfalso; omega))
  refine ev_b bX6_blocks_51_55 (lv' := [(4, .int (nI (g))), (3, .ref 33), (0, .ref 0), (1, .int (nI (2))), (2, .int (nI (1)))]) (st' := [.int (-9), .int (nI (g))]) (w2 := compW T S P U O1 ((lfB S (itS S n) n)) Q C R tl rf) rfl ?_
  refine ev_top (y := zI (-9)) (by decide) ?_
  refine ev_top2 (y := zI (((g : Nat) : Int))) (zI_nat _).symm ?_
  refine ev_icmp_ne_z (tgt := 62) (by constructor <;> omega) (by constructor <;> omega) dX6_blocks_55 (by decide) (fun h55 => ?_) (fun h55 => (by exfalso; omega))
  refine ev_b bX6_blocks_62_69 (lv' := [(4, .int (nI (g))), (3, .ref 33), (0, .ref 0), (1, .int (nI (2))), (2, .int (nI (1)))]) (st' := [.int (nI (g)), .ref 33, .ref 30]) (w2 := compW T S P U O1 ((lfB S (itS S n) n)) Q C R tl rf) rfl ?_
  refine ev_callVN (Yc := mX0_excess) [30, 31, 32, 33, 34] dX6_blocks_69 tn_756 kX0_excess (m_X0_excess_2 (lfB S (itS S n) n) g hg) rfl (st := []) rfl rfl rfl (by decide) hw_comp__30 (by decide) (Nat.le_of_ble_eq_true rfl) (Nat.le_refl _) (Nat.le_refl _) (fun r w' h => by obtain ⟨-, rfl⟩ := h; exact Nat.le_of_ble_eq_true rfl) ?_
  rintro _ _ ⟨rfl, rfl⟩
  refine ev_eq (lv' := [(4, .int (nI (g))), (3, .ref 33), (0, .ref 0), (1, .int (nI (2))), (2, .int (nI (1)))]) (st' := [.int (zI (excZ (lfB S (itS S n) n) (BillN.li (lfB S (itS S n) n)) g))]) (w' := compW T S P U O1 ((lfB S (itS S n) n)) Q C R tl rf) rfl rfl xp_comp__30 ?_
  refine ev_top (y := (zI (excS S (itS S n) g))) (congrArg zI (show excZ (lfB S (itS S n) n) (BillN.li (lfB S (itS S n) n)) g = excS S (itS S n) g from by rfl)) ?_
  exact ev_iret dX6_blocks_72 rfl (Nat.le_refl 49) (Nat.le_refl _) (Nat.le_refl _) ⟨rfl, _, _, _, _, _, _, rfl, hQ, rfl, rfl⟩
theorem bX6_firstWrongTold_0_2 {l : Launch} {E : XE} : Snd l E mX6_firstWrongTold 0 2 (xs [x_push (.int (nI 0)), x_istore 2]) := Snd.cons (snd_iconst (v := nI 0) dX6_firstWrongTold_0 (by decide)) (Snd.cons (snd_istore_n (i := 2) dX6_firstWrongTold_1 rfl (by decide)) Snd.nil)
theorem bX6_firstWrongTold_2_7 {l : Launch} {E : XE} : Snd l E mX6_firstWrongTold 2 7 (xs [x_iload 2, x_aload 0, x_get 7 10]) := Snd.cons (snd_iload_n (i := 2) dX6_firstWrongTold_2 rfl) (Snd.cons (snd_aload_n (i := 0) dX6_firstWrongTold_3 rfl) (Snd.cons (snd_get (ci := 7) (k := 10) dX6_firstWrongTold_4 rfl inX6 (by decide) tw_217) Snd.nil))
theorem bX6_firstWrongTold_45_47 {l : Launch} {E : XE} : Snd l E mX6_firstWrongTold 45 47 (xs [x_push (.int (-9))]) := Snd.cons (snd_bipush (v := -9) dX6_firstWrongTold_45 (by decide)) Snd.nil
theorem bX6_firstWrongTold_10_16 {l : Launch} {E : XE} : Snd l E mX6_firstWrongTold 10 16 (xs [x_iload 2, x_aload 0, x_get 7 8, x_len]) := Snd.cons (snd_iload_n (i := 2) dX6_firstWrongTold_10 rfl) (Snd.cons (snd_aload_n (i := 0) dX6_firstWrongTold_11 rfl) (Snd.cons (snd_get (ci := 7) (k := 8) dX6_firstWrongTold_12 rfl inX6 (by decide) tw_215) (Snd.cons (snd_len dX6_firstWrongTold_15) Snd.nil)))
theorem bX6_firstWrongTold_19_24 {l : Launch} {E : XE} : Snd l E mX6_firstWrongTold 19 24 (xs [x_aload 0, x_get 7 8, x_iload 2]) := Snd.cons (snd_aload_n (i := 0) dX6_firstWrongTold_19 rfl) (Snd.cons (snd_get (ci := 7) (k := 8) dX6_firstWrongTold_20 rfl inX6 (by decide) tw_215) (Snd.cons (snd_iload_n (i := 2) dX6_firstWrongTold_23 rfl) Snd.nil))
theorem bX6_firstWrongTold_25_31 {l : Launch} {E : XE} : Snd l E mX6_firstWrongTold 25 31 (xs [x_aload 0, x_get 7 4, x_iload 1, x_iload 2]) := Snd.cons (snd_aload_n (i := 0) dX6_firstWrongTold_25 rfl) (Snd.cons (snd_get (ci := 7) (k := 4) dX6_firstWrongTold_26 rfl inX6 (by decide) tw_211) (Snd.cons (snd_iload_n (i := 1) dX6_firstWrongTold_29 rfl) (Snd.cons (snd_iload_n (i := 2) dX6_firstWrongTold_30 rfl) Snd.nil)))
theorem bX6_firstWrongTold_42_2 {l : Launch} {E : XE} : Snd l E mX6_firstWrongTold 42 2 (xs [x_id]) := Snd.cons (snd_goto (tgt := 2) dX6_firstWrongTold_42 (by decide)) Snd.nil
theorem bX6_firstWrongTold_37_38 {l : Launch} {E : XE} : Snd l E mX6_firstWrongTold 37 38 (xs [x_iload 2]) := Snd.cons (snd_iload_n (i := 2) dX6_firstWrongTold_37 rfl) Snd.nil
set_option maxHeartbeats 4000000 in
set_option maxRecDepth 100000 in
theorem m_X6_firstWrongTold_0 {l : Launch} {E : XE} (T : TopN) (S P U : SaleN) (O : OutN) (B : BillN) (Q : SeaN) (C : ScrN) (R : PrtN) (tl rf : Nat → Nat) (hb : BndZ (BillN.wo B)) (hT : T.tc ≤ 5) (htl : ∀ k, k < T.tc → tl k ≤ 99) : MetE l E mX6_firstWrongTold (2) 0 0 [.ref 0, .int (nI (0))] (compW T S P U O B Q C R tl rf) (fun r w' => r = some (.int (zI (fwZ tl (BillN.wo B) T.tc 0))) ∧ w' = compW T S P U O B Q C R tl rf) := by
  refine MetE.of (by decide +kernel) (Nat.le_of_ble_eq_true rfl) ?_
  refine ev_eq (lv' := [(0, .ref 0), (1, .int (nI (0)))]) (st' := []) (w' := compW T S P U O B Q C R tl rf) rfl rfl rfl ?_
  refine ev_b bX6_firstWrongTold_0_2 (lv' := [(2, .int (nI (0))), (0, .ref 0), (1, .int (nI (0)))]) (st' := []) (w2 := compW T S P U O B Q C R tl rf) rfl ?_
  have L2 : ∀ (j_ k : Nat), k + j_ = T.tc → (fwZ tl (BillN.wo B) T.tc 0 = fwZ tl (BillN.wo B) (T.tc - k) k) → Ev l E mX6_firstWrongTold (2) 0 0 (compW T S P U O B Q C R tl rf) (fun r w' => r = some (.int (zI (fwZ tl (BillN.wo B) T.tc 0))) ∧ w' = compW T S P U O B Q C R tl rf) 0 0 2 [(2, .int (nI (k))), (0, .ref 0), (1, .int (nI (0)))] [] (compW T S P U O B Q C R tl rf) := by
    intro j_
    induction j_ with
    | zero =>
      intro k hk2  hinv2
      replace hk2 : k = T.tc := hk2
      refine ev_b bX6_firstWrongTold_2_7 (lv' := [(2, .int (nI (k))), (0, .ref 0), (1, .int (nI (0)))]) (st' := [.int (nI (T.tc)), .int (nI (k))]) (w2 := compW T S P U O B Q C R tl rf) rfl ?_
      refine ev_icmp_ge_n (tgt := 45) (by omega) (by omega) dX6_firstWrongTold_7 (by decide) (fun h7 => ?_) (fun h7 => (by exfalso; omega))
      refine ev_b bX6_firstWrongTold_45_47 (lv' := [(2, .int (nI (k))), (0, .ref 0), (1, .int (nI (0)))]) (st' := [.int (-9)]) (w2 := compW T S P U O B Q C R tl rf) rfl ?_
      exact ev_iret dX6_firstWrongTold_47 rfl (Nat.le_refl 49) (Nat.le_refl _) (Nat.le_refl _) ⟨(by rw [hinv2, hk2, Nat.sub_self]; exact rfl), rfl⟩
    | succ j_ ih2 =>
      intro k hk2  hinv2
      have hlt2 : k < T.tc := by omega
      have hst := fw_step hinv2 hlt2
      have hbk := hb k (by omega)
      have htk := htl k hlt2
      refine ev_b bX6_firstWrongTold_2_7 (lv' := [(2, .int (nI (k))), (0, .ref 0), (1, .int (nI (0)))]) (st' := [.int (nI (T.tc)), .int (nI (k))]) (w2 := compW T S P U O B Q C R tl rf) rfl ?_
      refine ev_icmp_ge_n (tgt := 45) (by omega) (by omega) dX6_firstWrongTold_7 (by decide) (fun h7 => (by exfalso; omega)) (fun h7 => ?_)
      refine ev_b bX6_firstWrongTold_10_16 (lv' := [(2, .int (nI (k))), (0, .ref 0), (1, .int (nI (0)))]) (st' := [.int (nI (5)), .int (nI (k))]) (w2 := compW T S P U O B Q C R tl rf) rfl ?_
      refine ev_icmp_ge_n (tgt := 45) (by omega) (by decide) dX6_firstWrongTold_16 (by decide) (fun h16 => (by exfalso; omega)) (fun h16 => ?_)
      refine ev_b bX6_firstWrongTold_19_24 (lv' := [(2, .int (nI (k))), (0, .ref 0), (1, .int (nI (0)))]) (st' := [.int (nI (k)), .ref 47]) (w2 := compW T S P U O B Q C R tl rf) rfl ?_
      refine ev_iald_n (f := tl) dX6_firstWrongTold_24 rfl (by omega) (by decide) ?_
      refine ev_b bX6_firstWrongTold_25_31 (lv' := [(2, .int (nI (k))), (0, .ref 0), (1, .int (nI (0)))]) (st' := [.int (nI (k)), .int (nI (0)), .ref 30, .int (nI (tl k))]) (w2 := compW T S P U O B Q C R tl rf) rfl ?_
      refine ev_callVN (Yc := mX0_payment) [30, 31, 32, 33, 34] dX6_firstWrongTold_31 tn_741 kX0_payment (m_X0_payment_0 B k (by omega)) rfl (st := [.int (nI (tl k))]) rfl rfl rfl (by decide) hw_comp__30 (by decide) (Nat.le_of_ble_eq_true rfl) (Nat.le_refl _) (Nat.le_refl _) (fun r w' h => by obtain ⟨-, rfl⟩ := h; exact Nat.le_of_ble_eq_true rfl) ?_
      rintro _ _ ⟨rfl, rfl⟩
      refine ev_eq (lv' := [(2, .int (nI (k))), (0, .ref 0), (1, .int (nI (0)))]) (st' := [.int (zI (B.wo k)), .int (nI (tl k))]) (w' := compW T S P U O B Q C R tl rf) rfl rfl xp_comp__30 ?_
      refine ev_top2 (y := zI (((tl k : Nat) : Int))) (zI_nat _).symm ?_
      refine ev_icmp_eq_z (tgt := 39) (by constructor <;> omega) (by constructor <;> omega) dX6_firstWrongTold_34 (by decide) (fun h34 => ?_) (fun h34 => ?_)
      · skip
        have hnext : fwZ tl (BillN.wo B) T.tc 0 = fwZ tl (BillN.wo B) (T.tc - (k + 1)) (k + 1) := by rw [hst, if_pos h34]
        refine ev_iinc_n (x := k) (v := 1) dX6_firstWrongTold_39 rfl (by decide) ?_
        refine ev_eq (lv' := [(2, .int (nI (k + 1))), (0, .ref 0), (1, .int (nI (0)))]) rfl rfl rfl ?_
        refine ev_b bX6_firstWrongTold_42_2 (lv' := [(2, .int (nI (k + 1))), (0, .ref 0), (1, .int (nI (0)))]) (st' := []) (w2 := compW T S P U O B Q C R tl rf) rfl ?_
        rw [show nI (k + 1) = nI ((k + 1)) from congrArg nI (by omega)]
        exact ih2 (k + 1) (by omega) hnext
      · skip
        refine ev_b bX6_firstWrongTold_37_38 (lv' := [(2, .int (nI (k))), (0, .ref 0), (1, .int (nI (0)))]) (st' := [.int (nI (k))]) (w2 := compW T S P U O B Q C R tl rf) rfl ?_
        exact ev_iret dX6_firstWrongTold_38 rfl (Nat.le_refl 49) (Nat.le_refl _) (Nat.le_refl _) ⟨(congrArg (fun t => some (Value.int t)) (show nI (k) = zI (fwZ tl (BillN.wo B) T.tc 0) from by rw [← zI_nat]; exact congrArg zI (by rw [hst, if_neg h34]))), rfl⟩
  exact L2 T.tc 0 (by omega) rfl
set_option maxHeartbeats 4000000 in
set_option maxRecDepth 100000 in
theorem m_X6_firstWrongTold_1 {l : Launch} {E : XE} (T : TopN) (S P U : SaleN) (O : OutN) (B : BillN) (Q : SeaN) (C : ScrN) (R : PrtN) (tl rf : Nat → Nat) (hb : BndZ (BillN.ha B)) (hT : T.tc ≤ 5) (htl : ∀ k, k < T.tc → tl k ≤ 99) : MetE l E mX6_firstWrongTold (2) 0 0 [.ref 0, .int (nI (1))] (compW T S P U O B Q C R tl rf) (fun r w' => r = some (.int (zI (fwZ tl (BillN.ha B) T.tc 0))) ∧ w' = compW T S P U O B Q C R tl rf) := by
  refine MetE.of (by decide +kernel) (Nat.le_of_ble_eq_true rfl) ?_
  refine ev_eq (lv' := [(0, .ref 0), (1, .int (nI (1)))]) (st' := []) (w' := compW T S P U O B Q C R tl rf) rfl rfl rfl ?_
  refine ev_b bX6_firstWrongTold_0_2 (lv' := [(2, .int (nI (0))), (0, .ref 0), (1, .int (nI (1)))]) (st' := []) (w2 := compW T S P U O B Q C R tl rf) rfl ?_
  have L2 : ∀ (j_ k : Nat), k + j_ = T.tc → (fwZ tl (BillN.ha B) T.tc 0 = fwZ tl (BillN.ha B) (T.tc - k) k) → Ev l E mX6_firstWrongTold (2) 0 0 (compW T S P U O B Q C R tl rf) (fun r w' => r = some (.int (zI (fwZ tl (BillN.ha B) T.tc 0))) ∧ w' = compW T S P U O B Q C R tl rf) 0 0 2 [(2, .int (nI (k))), (0, .ref 0), (1, .int (nI (1)))] [] (compW T S P U O B Q C R tl rf) := by
    intro j_
    induction j_ with
    | zero =>
      intro k hk2  hinv2
      replace hk2 : k = T.tc := hk2
      refine ev_b bX6_firstWrongTold_2_7 (lv' := [(2, .int (nI (k))), (0, .ref 0), (1, .int (nI (1)))]) (st' := [.int (nI (T.tc)), .int (nI (k))]) (w2 := compW T S P U O B Q C R tl rf) rfl ?_
      refine ev_icmp_ge_n (tgt := 45) (by omega) (by omega) dX6_firstWrongTold_7 (by decide) (fun h7 => ?_) (fun h7 => (by exfalso; omega))
      refine ev_b bX6_firstWrongTold_45_47 (lv' := [(2, .int (nI (k))), (0, .ref 0), (1, .int (nI (1)))]) (st' := [.int (-9)]) (w2 := compW T S P U O B Q C R tl rf) rfl ?_
      exact ev_iret dX6_firstWrongTold_47 rfl (Nat.le_refl 49) (Nat.le_refl _) (Nat.le_refl _) ⟨(by rw [hinv2, hk2, Nat.sub_self]; exact rfl), rfl⟩
    | succ j_ ih2 =>
      intro k hk2  hinv2
      have hlt2 : k < T.tc := by omega
      have hst := fw_step hinv2 hlt2
      have hbk := hb k (by omega)
      have htk := htl k hlt2
      refine ev_b bX6_firstWrongTold_2_7 (lv' := [(2, .int (nI (k))), (0, .ref 0), (1, .int (nI (1)))]) (st' := [.int (nI (T.tc)), .int (nI (k))]) (w2 := compW T S P U O B Q C R tl rf) rfl ?_
      refine ev_icmp_ge_n (tgt := 45) (by omega) (by omega) dX6_firstWrongTold_7 (by decide) (fun h7 => (by exfalso; omega)) (fun h7 => ?_)
      refine ev_b bX6_firstWrongTold_10_16 (lv' := [(2, .int (nI (k))), (0, .ref 0), (1, .int (nI (1)))]) (st' := [.int (nI (5)), .int (nI (k))]) (w2 := compW T S P U O B Q C R tl rf) rfl ?_
      refine ev_icmp_ge_n (tgt := 45) (by omega) (by decide) dX6_firstWrongTold_16 (by decide) (fun h16 => (by exfalso; omega)) (fun h16 => ?_)
      refine ev_b bX6_firstWrongTold_19_24 (lv' := [(2, .int (nI (k))), (0, .ref 0), (1, .int (nI (1)))]) (st' := [.int (nI (k)), .ref 47]) (w2 := compW T S P U O B Q C R tl rf) rfl ?_
      refine ev_iald_n (f := tl) dX6_firstWrongTold_24 rfl (by omega) (by decide) ?_
      refine ev_b bX6_firstWrongTold_25_31 (lv' := [(2, .int (nI (k))), (0, .ref 0), (1, .int (nI (1)))]) (st' := [.int (nI (k)), .int (nI (1)), .ref 30, .int (nI (tl k))]) (w2 := compW T S P U O B Q C R tl rf) rfl ?_
      refine ev_callVN (Yc := mX0_payment) [30, 31, 32, 33, 34] dX6_firstWrongTold_31 tn_741 kX0_payment (m_X0_payment_1 B k (by omega)) rfl (st := [.int (nI (tl k))]) rfl rfl rfl (by decide) hw_comp__30 (by decide) (Nat.le_of_ble_eq_true rfl) (Nat.le_refl _) (Nat.le_refl _) (fun r w' h => by obtain ⟨-, rfl⟩ := h; exact Nat.le_of_ble_eq_true rfl) ?_
      rintro _ _ ⟨rfl, rfl⟩
      refine ev_eq (lv' := [(2, .int (nI (k))), (0, .ref 0), (1, .int (nI (1)))]) (st' := [.int (zI (B.ha k)), .int (nI (tl k))]) (w' := compW T S P U O B Q C R tl rf) rfl rfl xp_comp__30 ?_
      refine ev_top2 (y := zI (((tl k : Nat) : Int))) (zI_nat _).symm ?_
      refine ev_icmp_eq_z (tgt := 39) (by constructor <;> omega) (by constructor <;> omega) dX6_firstWrongTold_34 (by decide) (fun h34 => ?_) (fun h34 => ?_)
      · skip
        have hnext : fwZ tl (BillN.ha B) T.tc 0 = fwZ tl (BillN.ha B) (T.tc - (k + 1)) (k + 1) := by rw [hst, if_pos h34]
        refine ev_iinc_n (x := k) (v := 1) dX6_firstWrongTold_39 rfl (by decide) ?_
        refine ev_eq (lv' := [(2, .int (nI (k + 1))), (0, .ref 0), (1, .int (nI (1)))]) rfl rfl rfl ?_
        refine ev_b bX6_firstWrongTold_42_2 (lv' := [(2, .int (nI (k + 1))), (0, .ref 0), (1, .int (nI (1)))]) (st' := []) (w2 := compW T S P U O B Q C R tl rf) rfl ?_
        rw [show nI (k + 1) = nI ((k + 1)) from congrArg nI (by omega)]
        exact ih2 (k + 1) (by omega) hnext
      · skip
        refine ev_b bX6_firstWrongTold_37_38 (lv' := [(2, .int (nI (k))), (0, .ref 0), (1, .int (nI (1)))]) (st' := [.int (nI (k))]) (w2 := compW T S P U O B Q C R tl rf) rfl ?_
        exact ev_iret dX6_firstWrongTold_38 rfl (Nat.le_refl 49) (Nat.le_refl _) (Nat.le_refl _) ⟨(congrArg (fun t => some (Value.int t)) (show nI (k) = zI (fwZ tl (BillN.ha B) T.tc 0) from by rw [← zI_nat]; exact congrArg zI (by rw [hst, if_neg h34]))), rfl⟩
  exact L2 T.tc 0 (by omega) rfl
set_option maxHeartbeats 4000000 in
set_option maxRecDepth 100000 in
theorem m_X6_firstWrongTold_2 {l : Launch} {E : XE} (T : TopN) (S P U : SaleN) (O : OutN) (B : BillN) (Q : SeaN) (C : ScrN) (R : PrtN) (tl rf : Nat → Nat) (hb : BndZ (BillN.li B)) (hT : T.tc ≤ 5) (htl : ∀ k, k < T.tc → tl k ≤ 99) : MetE l E mX6_firstWrongTold (2) 0 0 [.ref 0, .int (nI (2))] (compW T S P U O B Q C R tl rf) (fun r w' => r = some (.int (zI (fwZ tl (BillN.li B) T.tc 0))) ∧ w' = compW T S P U O B Q C R tl rf) := by
  refine MetE.of (by decide +kernel) (Nat.le_of_ble_eq_true rfl) ?_
  refine ev_eq (lv' := [(0, .ref 0), (1, .int (nI (2)))]) (st' := []) (w' := compW T S P U O B Q C R tl rf) rfl rfl rfl ?_
  refine ev_b bX6_firstWrongTold_0_2 (lv' := [(2, .int (nI (0))), (0, .ref 0), (1, .int (nI (2)))]) (st' := []) (w2 := compW T S P U O B Q C R tl rf) rfl ?_
  have L2 : ∀ (j_ k : Nat), k + j_ = T.tc → (fwZ tl (BillN.li B) T.tc 0 = fwZ tl (BillN.li B) (T.tc - k) k) → Ev l E mX6_firstWrongTold (2) 0 0 (compW T S P U O B Q C R tl rf) (fun r w' => r = some (.int (zI (fwZ tl (BillN.li B) T.tc 0))) ∧ w' = compW T S P U O B Q C R tl rf) 0 0 2 [(2, .int (nI (k))), (0, .ref 0), (1, .int (nI (2)))] [] (compW T S P U O B Q C R tl rf) := by
    intro j_
    induction j_ with
    | zero =>
      intro k hk2  hinv2
      replace hk2 : k = T.tc := hk2
      refine ev_b bX6_firstWrongTold_2_7 (lv' := [(2, .int (nI (k))), (0, .ref 0), (1, .int (nI (2)))]) (st' := [.int (nI (T.tc)), .int (nI (k))]) (w2 := compW T S P U O B Q C R tl rf) rfl ?_
      refine ev_icmp_ge_n (tgt := 45) (by omega) (by omega) dX6_firstWrongTold_7 (by decide) (fun h7 => ?_) (fun h7 => (by exfalso; omega))
      refine ev_b bX6_firstWrongTold_45_47 (lv' := [(2, .int (nI (k))), (0, .ref 0), (1, .int (nI (2)))]) (st' := [.int (-9)]) (w2 := compW T S P U O B Q C R tl rf) rfl ?_
      exact ev_iret dX6_firstWrongTold_47 rfl (Nat.le_refl 49) (Nat.le_refl _) (Nat.le_refl _) ⟨(by rw [hinv2, hk2, Nat.sub_self]; exact rfl), rfl⟩
    | succ j_ ih2 =>
      intro k hk2  hinv2
      have hlt2 : k < T.tc := by omega
      have hst := fw_step hinv2 hlt2
      have hbk := hb k (by omega)
      have htk := htl k hlt2
      refine ev_b bX6_firstWrongTold_2_7 (lv' := [(2, .int (nI (k))), (0, .ref 0), (1, .int (nI (2)))]) (st' := [.int (nI (T.tc)), .int (nI (k))]) (w2 := compW T S P U O B Q C R tl rf) rfl ?_
      refine ev_icmp_ge_n (tgt := 45) (by omega) (by omega) dX6_firstWrongTold_7 (by decide) (fun h7 => (by exfalso; omega)) (fun h7 => ?_)
      refine ev_b bX6_firstWrongTold_10_16 (lv' := [(2, .int (nI (k))), (0, .ref 0), (1, .int (nI (2)))]) (st' := [.int (nI (5)), .int (nI (k))]) (w2 := compW T S P U O B Q C R tl rf) rfl ?_
      refine ev_icmp_ge_n (tgt := 45) (by omega) (by decide) dX6_firstWrongTold_16 (by decide) (fun h16 => (by exfalso; omega)) (fun h16 => ?_)
      refine ev_b bX6_firstWrongTold_19_24 (lv' := [(2, .int (nI (k))), (0, .ref 0), (1, .int (nI (2)))]) (st' := [.int (nI (k)), .ref 47]) (w2 := compW T S P U O B Q C R tl rf) rfl ?_
      refine ev_iald_n (f := tl) dX6_firstWrongTold_24 rfl (by omega) (by decide) ?_
      refine ev_b bX6_firstWrongTold_25_31 (lv' := [(2, .int (nI (k))), (0, .ref 0), (1, .int (nI (2)))]) (st' := [.int (nI (k)), .int (nI (2)), .ref 30, .int (nI (tl k))]) (w2 := compW T S P U O B Q C R tl rf) rfl ?_
      refine ev_callVN (Yc := mX0_payment) [30, 31, 32, 33, 34] dX6_firstWrongTold_31 tn_741 kX0_payment (m_X0_payment_2 B k (by omega)) rfl (st := [.int (nI (tl k))]) rfl rfl rfl (by decide) hw_comp__30 (by decide) (Nat.le_of_ble_eq_true rfl) (Nat.le_refl _) (Nat.le_refl _) (fun r w' h => by obtain ⟨-, rfl⟩ := h; exact Nat.le_of_ble_eq_true rfl) ?_
      rintro _ _ ⟨rfl, rfl⟩
      refine ev_eq (lv' := [(2, .int (nI (k))), (0, .ref 0), (1, .int (nI (2)))]) (st' := [.int (zI (B.li k)), .int (nI (tl k))]) (w' := compW T S P U O B Q C R tl rf) rfl rfl xp_comp__30 ?_
      refine ev_top2 (y := zI (((tl k : Nat) : Int))) (zI_nat _).symm ?_
      refine ev_icmp_eq_z (tgt := 39) (by constructor <;> omega) (by constructor <;> omega) dX6_firstWrongTold_34 (by decide) (fun h34 => ?_) (fun h34 => ?_)
      · skip
        have hnext : fwZ tl (BillN.li B) T.tc 0 = fwZ tl (BillN.li B) (T.tc - (k + 1)) (k + 1) := by rw [hst, if_pos h34]
        refine ev_iinc_n (x := k) (v := 1) dX6_firstWrongTold_39 rfl (by decide) ?_
        refine ev_eq (lv' := [(2, .int (nI (k + 1))), (0, .ref 0), (1, .int (nI (2)))]) rfl rfl rfl ?_
        refine ev_b bX6_firstWrongTold_42_2 (lv' := [(2, .int (nI (k + 1))), (0, .ref 0), (1, .int (nI (2)))]) (st' := []) (w2 := compW T S P U O B Q C R tl rf) rfl ?_
        rw [show nI (k + 1) = nI ((k + 1)) from congrArg nI (by omega)]
        exact ih2 (k + 1) (by omega) hnext
      · skip
        refine ev_b bX6_firstWrongTold_37_38 (lv' := [(2, .int (nI (k))), (0, .ref 0), (1, .int (nI (2)))]) (st' := [.int (nI (k))]) (w2 := compW T S P U O B Q C R tl rf) rfl ?_
        exact ev_iret dX6_firstWrongTold_38 rfl (Nat.le_refl 49) (Nat.le_refl _) (Nat.le_refl _) ⟨(congrArg (fun t => some (Value.int t)) (show nI (k) = zI (fwZ tl (BillN.li B) T.tc 0) from by rw [← zI_nat]; exact congrArg zI (by rw [hst, if_neg h34]))), rfl⟩
  exact L2 T.tc 0 (by omega) rfl
