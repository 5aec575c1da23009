theorem one_shl_lt {k n : Nat} (hk : k ≤ 4) (hn : 32 ≤ n) : 1 <<< k < n := by
  have h : k = 0 ∨ k = 1 ∨ k = 2 ∨ k = 3 ∨ k = 4 := by omega
  rcases h with rfl | rfl | rfl | rfl | rfl <;> exact Nat.lt_of_lt_of_le (by decide) hn
def hapTo (f : Nat → Int) : Nat → Nat
  | 0 => 0
  | k + 1 => if 0 < f k then hapTo f k ||| 1 <<< k else hapTo f k
theorem hapTo_s {f : Nat → Int} {k : Nat} : hapTo f (k + 1) = if 0 < f k then hapTo f k ||| 1 <<< k else hapTo f k := rfl
theorem won_up {f : Nat → Int} {S : SaleN} {k : Nat} {v : Int} (h : ∀ j, j < k → f j = wonZ S j) (hv : v = wonZ S k) : ∀ j, j < k + 1 → up f k v j = wonZ S j := by
  intro j hj
  by_cases e : j = k
  · subst e; rw [up_at]; exact hv
  · rw [up_ne e]; exact h j (by omega)
theorem paid_up {f : Nat → Int} {S : SaleN} {k : Nat} {v : Int} (h : ∀ j, j < k → f j = paidZ S j) (hv : v = paidZ S k) : ∀ j, j < k + 1 → up f k v j = paidZ S j := by
  intro j hj
  by_cases e : j = k
  · subst e; rw [up_at]; exact hv
  · rw [up_ne e]; exact h j (by omega)
/-- putting on the others keeps payments between what they were and what was won -/
theorem putTo_bnd {won li : Nat → Int} {g : Nat} {x : Int} (h : ∀ j, j < 5 → li j ≤ won j) (hx : 0 ≤ x) : ∀ k, k ≤ 5 → 0 ≤ (putTo won g li x k).2 ∧ (putTo won g li x k).2 ≤ x ∧ ∀ j, j < 5 → li j ≤ (putTo won g li x k).1 j ∧ (putTo won g li x k).1 j ≤ won j
  | 0, _ => ⟨hx, Int.le_refl _, fun j hj => ⟨Int.le_refl _, h j hj⟩⟩
  | k + 1, hk => by
    obtain ⟨h1, h2, h3⟩ := putTo_bnd (g := g) h hx k (by omega)
    rw [putTo_s]
    split
    · exact ⟨h1, h2, h3⟩
    · have h4 := h3 k (by omega)
      refine ⟨by show 0 ≤ _ - _; omega, by show _ - _ ≤ x; omega, fun j hj => ?_⟩
      show li j ≤ up _ k _ j ∧ up _ k _ j ≤ won j
      by_cases e : j = k
      · subst e
        rw [up_at]
        omega
      · rw [up_ne e]
        exact h3 j hj
/-- what charging leaves as it was -/
def Rest (B B0 : BillN) : Prop := B.li = B0.li ∧ B.gw = B0.gw ∧ B.un = B0.un ∧ B.lc = B0.lc

def gwZ (S : SaleN) (g : Nat) : Int := ((winW S (bgTo S.ow g 5) : Nat) : Int)
def unN (S : SaleN) : Nat := rbTo S.rs (itTo S.st (winB S 1023) S.ca) 6
/-- a bill that was charged -/
def chB (S : SaleN) (li gw : Nat → Int) (un lc : Nat) : BillN := (wonZ S, paidZ S, li, gw, winB S 1023, winW S 1023, un, lc)
/-- a bill with its groups' worths -/
def lfB (S : SaleN) (f : Nat → Int) (n : Nat) : BillN := chB S f (gwZ S) (unN S) n
abbrev LB (S : SaleN) : BillN := lfB S (paidZ S) 0
def blkS (S : SaleN) (f : Nat → Int) : Int × Int := blkTo (LB S) f 32
def excS (S : SaleN) (f : Nat → Int) (g : Nat) : Int := excZ (LB S) f g
def stepS (S : SaleN) (f : Nat → Int) : Nat → Int := (putTo (wonZ S) (blkS S f).2.toNat f (excS S f (blkS S f).2.toNat) 5).1
def itS (S : SaleN) : Nat → Nat → Int
  | 0 => paidZ S
  | n + 1 => stepS S (itS S n)
/-- payments are lifted n times -/
def LiftsTo (S : SaleN) (n : Nat) : Prop := n < 100000 ∧ (∀ i, i < n → (blkS S (itS S i)).2 ≠ -9) ∧ (blkS S (itS S n)).2 = -9
theorem blk_congB {S : SaleN} {f h : Nat → Int} {n g : Nat} : ∀ k, blkTo (lfB S h n) f k = blkTo (LB S) f k
  | 0 => rfl
  | k + 1 => by rw [blkTo_s, blkTo_s, blk_congB (g := g) k]; rfl
theorem and_1023 {m : Nat} (h : m < 1024) : m &&& 1023 = m := by
  have e1 : (2 : Nat) ^ 10 = 1024 := by decide
  rw [show (1023 : Nat) = 2 ^ 10 - 1 by decide, Nat.and_two_pow_sub_one_eq_mod, e1]
  exact Nat.mod_eq_of_lt h
theorem winW_mono {S : SaleN} (hS : SaleOK S) (sm : Nat) : winW S sm ≤ winW S 1023 := by
  obtain ⟨m, h1, h2, h3, h4, h5, h6, h7, -⟩ := wK_spec hS sm
  obtain ⟨m', k1, k2, k3, k4, k5, k6, k7, -, -, k8⟩ := wK_spec hS 1023
  have ha : andn m 1023 = 0 := by
    unfold andn
    have : m &&& 1023 = m := and_1023 h6
    rw [this]
    exact Nat.xor_self m
  have h := k8 m h1 ha
  unfold keyS at h
  rw [key_val k6, key_val h6] at h
  have p1 := pop_le m
  have p2 := pop_le m'
  rw [h5, k5]
  omega
theorem totZ_one {f : Nat → Int} {b : Nat} (hb : b < 5) : totZ f (1 <<< b) 5 = f b := by
  have h : b = 0 ∨ b = 1 ∨ b = 2 ∨ b = 3 ∨ b = 4 := by omega
  rcases h with rfl | rfl | rfl | rfl | rfl <;> simp [totZ, b01, Nat.testBit_two_pow, Nat.one_shiftLeft] <;> simp [Nat.testBit] <;> omega
theorem wonZ_bnd {S : SaleN} (hS : SaleOK S) (b : Nat) : 0 ≤ wonZ S b ∧ wonZ S b ≤ 990 := by
  have := wonN_le hS b
  unfold wonZ
  omega
theorem paid_bnd {S : SaleN} (hS : SaleOK S) {b : Nat} (hb : b < 5) : -1000 ≤ paidZ S b ∧ paidZ S b ≤ wonZ S b := by
  have h1 := wonZ_bnd hS b
  unfold paidZ
  split
  · omega
  · unfold harmZ harmF
    rw [totZ_one hb]
    have h2 := winW_mono hS (andn 1023 (bgTo S.ow (1 <<< b) 5))
    have h3 := winW_le hS 1023
    omega
theorem blk_exc {B : BillN} {f : Nat → Int} (hB : BillB B f) : ∀ k, k ≤ 32 → (blkTo B f k).2 ≠ -9 → 0 < excZ B f (blkTo B f k).2.toNat ∧ excZ B f (blkTo B f k).2.toNat = (blkTo B f k).1
  | 0, _, h => absurd rfl h
  | k + 1, hk, h => by
    have h1 := blkTo_bnd hB k (by omega)
    rw [blkTo_s] at h ⊢
    split
    · rename_i h2
      show 0 < excZ B f (k : Int).toNat ∧ excZ B f (k : Int).toNat = excZ B f k
      rw [Int.toNat_natCast]
      omega
    · rename_i h2
      rw [if_neg h2] at h
      exact blk_exc hB k (by omega) h
theorem it_bnd {S : SaleN} (hS : SaleOK S) : ∀ n, (∀ i, i < n → (blkS S (itS S i)).2 ≠ -9) → ∀ b, b < 5 → -1000 ≤ itS S n b ∧ itS S n b ≤ wonZ S b
  | 0, _, b, hb => paid_bnd hS hb
  | n + 1, hn, b, hb => by
    have h1 := it_bnd hS n (fun i hi => hn i (by omega))
    have hB : BillB (LB S) (itS S n) := ⟨fun k hk => by have := wonZ_bnd hS k; show -100000 ≤ wonZ S k ∧ wonZ S k ≤ 100000; omega, fun k hk => by have := h1 k hk; have := wonZ_bnd hS k; omega, fun g hg => by have := winW_le hS (bgTo S.ow g 5); show -100000 ≤ gwZ S g ∧ gwZ S g ≤ 100000; unfold gwZ; omega, by have := rbTo_le (rs := S.rs) (items := itTo S.st (winB S 1023) S.ca) 6 (Nat.le_refl _) hS.2.2.2.2; show unN S ≤ 100000; unfold unN; omega⟩
    have h2 := blkTo_bnd hB 32 (Nat.le_refl _)
    have h3 := hn n (by omega)
    have h5 : 0 ≤ excS S (itS S n) (blkS S (itS S n)).2.toNat := by
      have := blk_exc hB 32 (Nat.le_refl _) h3
      show 0 ≤ excZ (LB S) (itS S n) (blkTo (LB S) (itS S n) 32).2.toNat
      omega
    have h4 := (putTo_bnd (g := (blkS S (itS S n)).2.toNat) (fun j hj => (h1 j hj).2) h5 5 (Nat.le_refl _)).2.2 b hb
    have h6 := h1 b hb
    show -1000 ≤ (putTo _ _ _ _ 5).1 b ∧ (putTo _ _ _ _ 5).1 b ≤ wonZ S b
    omega
theorem bill_ok {S : SaleN} (hS : SaleOK S) {n : Nat} (hn : ∀ i, i < n → (blkS S (itS S i)).2 ≠ -9) {m : Nat} {h : Nat → Int} : BillB (lfB S h m) (itS S n) := by
  have h1 := it_bnd hS n hn
  exact ⟨fun k hk => by have := wonZ_bnd hS k; show -100000 ≤ wonZ S k ∧ wonZ S k ≤ 100000; omega, fun k hk => by have := h1 k hk; have := wonZ_bnd hS k; omega, fun g hg => by have := winW_le hS (bgTo S.ow g 5); show -100000 ≤ gwZ S g ∧ gwZ S g ≤ 100000; unfold gwZ; omega, by have := rbTo_le (rs := S.rs) (items := itTo S.st (winB S 1023) S.ca) 6 (Nat.le_refl _) hS.2.2.2.2; show unN S ≤ 100000; unfold unN; omega⟩
theorem gw_up {f : Nat → Int} {S : SaleN} {k : Nat} (h : ∀ j, j < k → f j = gwZ S j) : ∀ j, j < k + 1 → up f k (gwZ S k) j = gwZ S j := by
  intro j hj
  by_cases e : j = k
  · subst e; rw [up_at]
  · rw [up_ne e]; exact h j (by omega)
theorem it_facts {S : SaleN} (hS : SaleOK S) {k : Nat} (hn : ∀ i, i < k → (blkS S (itS S i)).2 ≠ -9) : 0 ≤ (blkS S (itS S k)).1 ∧ (blkS S (itS S k)).1 ≤ 3000000 ∧ (blkS S (itS S k)).2 < 32 ∧ ((blkS S (itS S k)).2 = -9 ∨ 0 ≤ (blkS S (itS S k)).2) := by
  unfold blkS
  exact blkTo_bnd (bill_ok hS hn) 32 (Nat.le_refl _)
theorem it_exc {S : SaleN} (hS : SaleOK S) {k : Nat} (hn : ∀ i, i < k → (blkS S (itS S i)).2 ≠ -9) (h9 : (blkS S (itS S k)).2 ≠ -9) : ∃ g, (blkS S (itS S k)).2.toNat = g ∧ (blkS S (itS S k)).2 = ((g : Nat) : Int) ∧ g < 32 ∧ 0 ≤ excS S (itS S k) g ∧ excS S (itS S k) g ≤ 3000000 := by
  have h1 := it_facts hS hn
  have h2 := blk_exc (bill_ok hS hn (m := 0) (h := paidZ S)) 32 (Nat.le_refl _) h9
  refine ⟨_, rfl, by omega, by omega, ?_, ?_⟩
  · unfold excS blkS
    exact Int.le_of_lt h2.1
  · unfold excS
    rw [show excZ (LB S) (itS S k) (blkS S (itS S k)).2.toNat = (blkS S (itS S k)).1 from h2.2]
    exact h1.2.1

theorem bX0_charge_0_4 {l : Launch} {E : XE} : Snd l E mX0_charge 0 4 (xs [x_aload 2, x_push (.int (nI 1023))]) := Snd.cons (snd_aload_n (i := 2) dX0_charge_0 rfl) (Snd.cons (snd_sipush (v := nI 1023) dX0_charge_1 (by decide)) Snd.nil)
theorem bX0_charge_7_10 {l : Launch} {E : XE} : Snd l E mX0_charge 7 10 (xs [x_istore 3, x_aload 0, x_iload 3]) := Snd.cons (snd_istore_n (i := 3) dX0_charge_7 rfl (by decide)) (Snd.cons (snd_aload_n (i := 0) dX0_charge_8 rfl) (Snd.cons (snd_iload_n (i := 3) dX0_charge_9 rfl) Snd.nil))
theorem bX0_charge_13_18 {l : Launch} {E : XE} : Snd l E mX0_charge 13 18 (xs [x_puti 1 4, x_aload 0, x_iload 3]) := Snd.cons (snd_puti (ci := 1) (k := 4) dX0_charge_13 rfl inX0 tyX0_ok nmX0 (by decide) tw_108 rfl rfl) (Snd.cons (snd_aload_n (i := 0) dX0_charge_16 rfl) (Snd.cons (snd_iload_n (i := 3) dX0_charge_17 rfl) Snd.nil))
theorem bX0_charge_21_27 {l : Launch} {E : XE} : Snd l E mX0_charge 21 27 (xs [x_puti 1 5, x_push (.int (nI 0)), x_istore 4]) := Snd.cons (snd_puti (ci := 1) (k := 5) dX0_charge_21 rfl inX0 tyX0_ok nmX0 (by decide) tw_110 rfl rfl) (Snd.cons (snd_iconst (v := nI 0) dX0_charge_24 (by decide)) (Snd.cons (snd_istore dX0_charge_25 (by decide)) Snd.nil))
theorem bX0_charge_27_30 {l : Launch} {E : XE} : Snd l E mX0_charge 27 30 (xs [x_iload 4, x_push (.int (nI 5))]) := Snd.cons (snd_iload dX0_charge_27) (Snd.cons (snd_iconst (v := nI 5) dX0_charge_29 (by decide)) Snd.nil)
theorem bX0_charge_63_66 {l : Launch} {E : XE} : Snd l E mX0_charge 63 66 (xs [x_push (.int (nI 0)), x_istore 4]) := Snd.cons (snd_iconst (v := nI 0) dX0_charge_63 (by decide)) (Snd.cons (snd_istore dX0_charge_64 (by decide)) Snd.nil)
theorem bX0_charge_66_69 {l : Launch} {E : XE} : Snd l E mX0_charge 66 69 (xs [x_iload 4, x_push (.int (nI 5))]) := Snd.cons (snd_iload dX0_charge_66) (Snd.cons (snd_iconst (v := nI 5) dX0_charge_68 (by decide)) Snd.nil)
theorem bX0_charge_72_84 {l : Launch} {E : XE} : Snd l E mX0_charge 72 84 (xs [x_aload 0, x_get 1 1, x_iload 4, x_aload 0, x_get 1 0, x_iload 4]) := Snd.cons (snd_aload_n (i := 0) dX0_charge_72 rfl) (Snd.cons (snd_get (ci := 1) (k := 1) dX0_charge_73 rfl inX0 (by decide) tw_104) (Snd.cons (snd_iload dX0_charge_76) (Snd.cons (snd_aload_n (i := 0) dX0_charge_78 rfl) (Snd.cons (snd_get (ci := 1) (k := 0) dX0_charge_79 rfl inX0 (by decide) tw_102) (Snd.cons (snd_iload dX0_charge_82) Snd.nil)))))
theorem bX0_charge_92_98 {l : Launch} {E : XE} : Snd l E mX0_charge 92 98 (xs [x_aload 0, x_aload 1, x_aload 2, x_push (.int (nI 1)), x_iload 4]) := Snd.cons (snd_aload_n (i := 0) dX0_charge_92 rfl) (Snd.cons (snd_aload_n (i := 1) dX0_charge_93 rfl) (Snd.cons (snd_aload_n (i := 2) dX0_charge_94 rfl) (Snd.cons (snd_iconst (v := nI 1) dX0_charge_95 (by decide)) (Snd.cons (snd_iload dX0_charge_96) Snd.nil))))
theorem bX0_charge_106_66 {l : Launch} {E : XE} : Snd l E mX0_charge 106 66 (xs [x_id]) := Snd.cons (snd_goto (tgt := 66) dX0_charge_106 (by decide)) Snd.nil
theorem bX0_charge_88_102 {l : Launch} {E : XE} : Snd l E mX0_charge 88 102 (xs [x_push (.int (nI 0)), x_id]) := Snd.cons (snd_iconst (v := nI 0) dX0_charge_88 (by decide)) (Snd.cons (snd_goto (tgt := 102) dX0_charge_89 (by decide)) Snd.nil)
theorem bX0_charge_33_48 {l : Launch} {E : XE} : Snd l E mX0_charge 33 48 (xs [x_aload 0, x_get 1 0, x_iload 4, x_aload 1, x_aload 0, x_get 1 4, x_aload 1, x_push (.int (nI 1)), x_iload 4]) := Snd.cons (snd_aload_n (i := 0) dX0_charge_33 rfl) (Snd.cons (snd_get (ci := 1) (k := 0) dX0_charge_34 rfl inX0 (by decide) tw_102) (Snd.cons (snd_iload dX0_charge_37) (Snd.cons (snd_aload_n (i := 1) dX0_charge_39 rfl) (Snd.cons (snd_aload_n (i := 0) dX0_charge_40 rfl) (Snd.cons (snd_get (ci := 1) (k := 4) dX0_charge_41 rfl inX0 (by decide) tw_108) (Snd.cons (snd_aload_n (i := 1) dX0_charge_44 rfl) (Snd.cons (snd_iconst (v := nI 1) dX0_charge_45 (by decide)) (Snd.cons (snd_iload dX0_charge_46) Snd.nil))))))))
theorem bX0_charge_60_27 {l : Launch} {E : XE} : Snd l E mX0_charge 60 27 (xs [x_id]) := Snd.cons (snd_goto (tgt := 27) dX0_charge_60 (by decide)) Snd.nil
set_option maxHeartbeats 4000000 in
set_option maxRecDepth 100000 in
theorem m_X0_charge {l : Launch} {E : XE} (B : BillN) (S : SaleN) (O : OutN) (hS : SaleOK S) (hK : KeysL O (keysOf S (packsN S S.ca))) : MetE l E mX0_charge (3) 0 0 [.ref 0, .ref 5, .ref 13] (billW 0 B ++ saleW 5 S ++ outW 13 O) (fun r w' => r = none ∧ w' = billW 0 (chB S B.li B.gw B.un B.lc) ++ saleW 5 S ++ outW 13 O) := by
  refine MetE.of (by decide +kernel) (Nat.le_of_ble_eq_true rfl) ?_
  have hKO := keys_ok hS hK
  obtain ⟨-, -, -, -, -, -, -, -, hk1, hk2, -⟩ := wK_spec hS 1023
  have hwb := winB_lt hS 1023
  refine ev_eq (lv' := [(0, .ref 0), (1, .ref 5), (2, .ref 13)]) (st' := []) (w' := billW 0 B ++ saleW 5 S ++ outW 13 O) rfl rfl rfl ?_
  refine ev_b bX0_charge_0_4 (lv' := [(0, .ref 0), (1, .ref 5), (2, .ref 13)]) (st' := [.int (nI (1023)), .ref 13]) (w2 := billW 0 B ++ saleW 5 S ++ outW 13 O) rfl ?_
  refine ev_callVN (Yc := mX1_first) [13, 14, 15, 16, 17] dX0_charge_4 tn_596 kX1_first (m_X1_first O 1023 hKO) rfl (st := []) rfl rfl rfl (by decide) hw_Bill0_Sale5_Out13__13 (by decide) (Nat.le_of_ble_eq_true rfl) (Nat.le_refl _) (Nat.le_refl _) (fun r w' h => by obtain ⟨-, rfl⟩ := h; exact Nat.le_of_ble_eq_true rfl) ?_
  rintro _ _ ⟨rfl, rfl⟩
  refine ev_eq (lv' := [(0, .ref 0), (1, .ref 5), (2, .ref 13)]) (st' := [.int (nI (firstTo O.ke 1023 O.sz))]) (w' := billW 0 B ++ saleW 5 S ++ outW 13 O) rfl rfl xp_Bill0_Sale5_Out13__13 ?_
  refine ev_top (y := (nI (wK S 1023))) (congrArg nI (show firstTo O.ke 1023 O.sz = wK S 1023 from by exact first_L hK _)) ?_
  refine ev_b bX0_charge_7_10 (lv' := [(3, .int (nI (wK S 1023))), (0, .ref 0), (1, .ref 5), (2, .ref 13)]) (st' := [.int (nI (wK S 1023)), .ref 0]) (w2 := billW 0 B ++ saleW 5 S ++ outW 13 O) rfl ?_
  refine ev_callSN (Yc := mX1_bidsIn) [] dX0_charge_10 tn_597 kX1_bidsIn (m_X1_bidsIn (wK S 1023)) rfl (st := [.ref 0]) rfl (by decide) rfl (by decide) (Nat.le_of_ble_eq_true rfl) (Nat.le_refl _) (Nat.le_refl _) (fun r w' h => by obtain ⟨-, rfl⟩ := h; exact Nat.le_of_ble_eq_true rfl) ?_
  rintro _ _ ⟨rfl, rfl⟩
  refine ev_eq (lv' := [(3, .int (nI (wK S 1023))), (0, .ref 0), (1, .ref 5), (2, .ref 13)]) (st' := [.int (nI (bidsN (wK S 1023))), .ref 0]) (w' := billW 0 B ++ saleW 5 S ++ outW 13 O) rfl rfl rfl ?_
  refine ev_top (y := (nI (winB S 1023))) (congrArg nI (show bidsN (wK S 1023) = winB S 1023 from by rfl)) ?_
  refine ev_b bX0_charge_13_18 (lv' := [(3, .int (nI (wK S 1023))), (0, .ref 0), (1, .ref 5), (2, .ref 13)]) (st' := [.int (nI (wK S 1023)), .ref 0]) (w2 := billW 0 ((B.wo, B.ha, B.li, B.gw, winB S 1023, B.wr, B.un, B.lc) : BillN) ++ saleW 5 S ++ outW 13 O) rfl ?_
  refine ev_callSN (Yc := mX1_worthIn) [] dX0_charge_18 tn_598 kX1_worthIn (m_X1_worthIn (wK S 1023) hk1 hk2) rfl (st := [.ref 0]) rfl (by decide) rfl (by decide) (Nat.le_of_ble_eq_true rfl) (Nat.le_refl _) (Nat.le_refl _) (fun r w' h => by obtain ⟨-, rfl⟩ := h; exact Nat.le_of_ble_eq_true rfl) ?_
  rintro _ _ ⟨rfl, rfl⟩
  refine ev_eq (lv' := [(3, .int (nI (wK S 1023))), (0, .ref 0), (1, .ref 5), (2, .ref 13)]) (st' := [.int (nI (worthK (wK S 1023))), .ref 0]) (w' := billW 0 ((B.wo, B.ha, B.li, B.gw, winB S 1023, B.wr, B.un, B.lc) : BillN) ++ saleW 5 S ++ outW 13 O) rfl rfl rfl ?_
  refine ev_top (y := (nI (winW S 1023))) (congrArg nI (show worthK (wK S 1023) = winW S 1023 from by rfl)) ?_
  refine ev_b bX0_charge_21_27 (lv' := [(4, .int (nI (0))), (3, .int (nI (wK S 1023))), (0, .ref 0), (1, .ref 5), (2, .ref 13)]) (st' := []) (w2 := billW 0 ((B.wo, B.ha, B.li, B.gw, winB S 1023, winW S 1023, B.un, B.lc) : BillN) ++ saleW 5 S ++ outW 13 O) rfl ?_
  have L27 : ∀ (j_ k : Nat), k + j_ = 5 → ∀ (B2 : BillN), ((∀ j, j < k → B2.wo j = wonZ S j) ∧ B2.wi = winB S 1023 ∧ B2.wr = winW S 1023 ∧ Rest B2 B) → Ev l E mX0_charge (3) 0 0 (billW 0 B ++ saleW 5 S ++ outW 13 O) (fun r w' => r = none ∧ w' = billW 0 (chB S B.li B.gw B.un B.lc) ++ saleW 5 S ++ outW 13 O) 0 0 27 [(4, .int (nI (k))), (0, .ref 0), (1, .ref 5), (2, .ref 13), (3, .int (nI (wK S 1023)))] [] (billW 0 B2 ++ saleW 5 S ++ outW 13 O) := by
    intro j_
    induction j_ with
    | zero =>
      intro k hk27 B2 hinv27
      replace hk27 : k = 5 := hk27
      refine ev_b bX0_charge_27_30 (lv' := [(4, .int (nI (k))), (0, .ref 0), (1, .ref 5), (2, .ref 13), (3, .int (nI (wK S 1023)))]) (st' := [.int (nI (5)), .int (nI (k))]) (w2 := billW 0 B2 ++ saleW 5 S ++ outW 13 O) rfl ?_
      refine ev_icmp_ge_n (tgt := 63) (by omega) (by decide) dX0_charge_30 (by decide) (fun h30 => ?_) (fun h30 => (by exfalso; omega))
      refine ev_b bX0_charge_63_66 (lv' := [(4, .int (nI (0))), (0, .ref 0), (1, .ref 5), (2, .ref 13), (3, .int (nI (wK S 1023)))]) (st' := []) (w2 := billW 0 B2 ++ saleW 5 S ++ outW 13 O) rfl ?_
      have L66 : ∀ (j_ k : Nat), k + j_ = 5 → ∀ (B3 : BillN), ((∀ j, j < 5 → B3.wo j = wonZ S j) ∧ (∀ j, j < k → B3.ha j = paidZ S j) ∧ B3.wi = winB S 1023 ∧ B3.wr = winW S 1023 ∧ Rest B3 B) → Ev l E mX0_charge (3) 0 0 (billW 0 B ++ saleW 5 S ++ outW 13 O) (fun r w' => r = none ∧ w' = billW 0 (chB S B.li B.gw B.un B.lc) ++ saleW 5 S ++ outW 13 O) 0 0 66 [(4, .int (nI (k))), (0, .ref 0), (1, .ref 5), (2, .ref 13), (3, .int (nI (wK S 1023)))] [] (billW 0 B3 ++ saleW 5 S ++ outW 13 O) := by
        intro j_
        induction j_ with
        | zero =>
          intro k hk66 B3 hinv66
          replace hk66 : k = 5 := hk66
          refine ev_b bX0_charge_66_69 (lv' := [(4, .int (nI (k))), (0, .ref 0), (1, .ref 5), (2, .ref 13), (3, .int (nI (wK S 1023)))]) (st' := [.int (nI (5)), .int (nI (k))]) (w2 := billW 0 B3 ++ saleW 5 S ++ outW 13 O) rfl ?_
          refine ev_icmp_ge_n (tgt := 109) (by omega) (by decide) dX0_charge_69 (by decide) (fun h69 => ?_) (fun h69 => (by exfalso; omega))
          obtain ⟨hr1, hr2, hr3, hr4⟩ := hinv66.2.2.2.2
          refine ev_arr (b := 1) (g := aZ (wonZ S)) rfl (fun j hj => congrArg zI (hinv66.1 j hj)) ?_
          refine ev_arr (b := 2) (g := aZ (paidZ S)) rfl (fun j hj => congrArg zI (hinv66.2.1 j (by omega))) ?_
          refine ev_eq (w' := billW 0 ((chB S B.li B.gw B.un B.lc)) ++ saleW 5 S ++ outW 13 O) rfl rfl (by rw [← hr1, ← hr2, ← hr3, ← hr4, show chB S B3.li B3.gw B3.un B3.lc = (wonZ S, paidZ S, B3.li, B3.gw, B3.wi, B3.wr, B3.un, B3.lc) from by rw [hinv66.2.2.1, hinv66.2.2.2.1]; rfl]; rfl) ?_
          exact ev_vret dX0_charge_109 rfl (Nat.le_of_ble_eq_true rfl) (Nat.le_refl _) (Nat.le_refl _) ⟨rfl, rfl⟩
        | succ j_ ih66 =>
          intro k hk66 B3 hinv66
          have hlt66 : k < 5 := by omega
          have hwk := hinv66.1 k hlt66
          have hwl := wonN_le hS k
          have hwz : wonZ S k = ((wonN S k : Nat) : Int) := rfl
          refine ev_b bX0_charge_66_69 (lv' := [(4, .int (nI (k))), (0, .ref 0), (1, .ref 5), (2, .ref 13), (3, .int (nI (wK S 1023)))]) (st' := [.int (nI (5)), .int (nI (k))]) (w2 := billW 0 B3 ++ saleW 5 S ++ outW 13 O) rfl ?_
          refine ev_icmp_ge_n (tgt := 109) (by omega) (by decide) dX0_charge_69 (by decide) (fun h69 => (by exfalso; omega)) (fun h69 => ?_)
          refine ev_b bX0_charge_72_84 (lv' := [(4, .int (nI (k))), (0, .ref 0), (1, .ref 5), (2, .ref 13), (3, .int (nI (wK S 1023)))]) (st' := [.int (nI (k)), .ref 1, .int (nI (k)), .ref 2]) (w2 := billW 0 B3 ++ saleW 5 S ++ outW 13 O) rfl ?_
          refine ev_iald_z (f := B3.wo) dX0_charge_84 rfl (by omega) (by decide) ?_
          refine ev_if_ne_z (tgt := 92) (by constructor <;> omega) dX0_charge_85 (by decide) (fun h85 => ?_) (fun h85 => ?_)
          · skip
            have hwn : ¬ wonN S k = 0 := by omega
            have hpv : paidZ S k = paidZ S k := rfl
            refine ev_b bX0_charge_92_98 (lv' := [(4, .int (nI (k))), (0, .ref 0), (1, .ref 5), (2, .ref 13), (3, .int (nI (wK S 1023)))]) (st' := [.int (nI (k)), .int (nI (1)), .ref 13, .ref 5, .ref 0, .int (nI (k)), .ref 2]) (w2 := billW 0 B3 ++ saleW 5 S ++ outW 13 O) rfl ?_
            refine ev_ishl_n (by omega) dX0_charge_98 ?_
            refine ev_callV (Yc := mX0_harmBy) (rng 0 18) dX0_charge_99 tw_603 kX0_harmBy (m_X0_harmBy B3 S O (1 <<< k) hS hK (one_shl_lt (by omega) (by decide)) hinv66.2.2.2.1) rfl (st := [.int (nI (k)), .ref 2]) rfl rfl rfl (by decide) (same_hw (billW 0 B3 ++ saleW 5 S ++ outW 13 O)) (by decide) (Nat.le_of_ble_eq_true rfl) (Nat.le_refl _) (Nat.le_refl _) (fun r w' h => by obtain ⟨-, rfl⟩ := h; exact Nat.le_of_ble_eq_true rfl) ?_
            rintro _ _ ⟨rfl, rfl⟩
            refine ev_eq (lv' := [(4, .int (nI (k))), (0, .ref 0), (1, .ref 5), (2, .ref 13), (3, .int (nI (wK S 1023)))]) (st' := [.int (zI (harmF S B3.wo (1 <<< k))), .int (nI (k)), .ref 2]) (w' := billW 0 B3 ++ saleW 5 S ++ outW 13 O) rfl rfl (same_xp (billW 0 B3 ++ saleW 5 S ++ outW 13 O) (billW 0 B3 ++ saleW 5 S ++ outW 13 O) rfl) ?_
            refine ev_top (y := (zI (paidZ S k))) (congrArg zI (show harmF S B3.wo (1 <<< k) = paidZ S k from by rw [harmF_cong hinv66.1]; exact (if_neg hwn).symm)) ?_
            refine ev_iast_z (f := B3.ha) dX0_charge_102 rfl (by omega) (by decide) ?_
            refine ev_eq (w' := billW 0 ((B3.wo, up B3.ha k (paidZ S k), B3.li, B3.gw, B3.wi, B3.wr, B3.un, B3.lc) : BillN) ++ saleW 5 S ++ outW 13 O) rfl rfl rfl ?_
            refine ev_iinc_n (x := k) (v := 1) dX0_charge_103 rfl (by decide) ?_
            refine ev_eq (lv' := [(4, .int (nI (k + 1))), (0, .ref 0), (1, .ref 5), (2, .ref 13), (3, .int (nI (wK S 1023)))]) rfl rfl rfl ?_
            refine ev_b bX0_charge_106_66 (lv' := [(4, .int (nI (k + 1))), (0, .ref 0), (1, .ref 5), (2, .ref 13), (3, .int (nI (wK S 1023)))]) (st' := []) (w2 := billW 0 ((B3.wo, up B3.ha k (paidZ S k), B3.li, B3.gw, B3.wi, B3.wr, B3.un, B3.lc) : BillN) ++ saleW 5 S ++ outW 13 O) rfl ?_
            rw [show nI (k + 1) = nI ((k + 1)) from congrArg nI (by omega)]
            exact ih66 (k + 1) (by omega) ((B3.wo, up B3.ha k (paidZ S k), B3.li, B3.gw, B3.wi, B3.wr, B3.un, B3.lc) : BillN) ⟨hinv66.1, paid_up hinv66.2.1 hpv, hinv66.2.2⟩
          · skip
            have hwn : wonN S k = 0 := by omega
            have hpv : ((0 : Nat) : Int) = paidZ S k := (if_pos hwn).symm
            refine ev_b bX0_charge_88_102 (lv' := [(4, .int (nI (k))), (0, .ref 0), (1, .ref 5), (2, .ref 13), (3, .int (nI (wK S 1023)))]) (st' := [.int (nI (0)), .int (nI (k)), .ref 2]) (w2 := billW 0 B3 ++ saleW 5 S ++ outW 13 O) rfl ?_
            refine ev_top (y := zI (((0 : Nat) : Int))) (zI_nat _).symm ?_
            refine ev_iast_z (f := B3.ha) dX0_charge_102 rfl (by omega) (by decide) ?_
            refine ev_eq (w' := billW 0 ((B3.wo, up B3.ha k (((0 : Nat) : Int)), B3.li, B3.gw, B3.wi, B3.wr, B3.un, B3.lc) : BillN) ++ saleW 5 S ++ outW 13 O) rfl rfl rfl ?_
            refine ev_iinc_n (x := k) (v := 1) dX0_charge_103 rfl (by decide) ?_
            refine ev_eq (lv' := [(4, .int (nI (k + 1))), (0, .ref 0), (1, .ref 5), (2, .ref 13), (3, .int (nI (wK S 1023)))]) rfl rfl rfl ?_
            refine ev_b bX0_charge_106_66 (lv' := [(4, .int (nI (k + 1))), (0, .ref 0), (1, .ref 5), (2, .ref 13), (3, .int (nI (wK S 1023)))]) (st' := []) (w2 := billW 0 ((B3.wo, up B3.ha k (((0 : Nat) : Int)), B3.li, B3.gw, B3.wi, B3.wr, B3.un, B3.lc) : BillN) ++ saleW 5 S ++ outW 13 O) rfl ?_
            rw [show nI (k + 1) = nI ((k + 1)) from congrArg nI (by omega)]
            exact ih66 (k + 1) (by omega) ((B3.wo, up B3.ha k (((0 : Nat) : Int)), B3.li, B3.gw, B3.wi, B3.wr, B3.un, B3.lc) : BillN) ⟨hinv66.1, paid_up hinv66.2.1 hpv, hinv66.2.2⟩
      exact L66 5 0 (by omega) _ ⟨by rw [← hk27]; exact hinv27.1, fun j hj => absurd hj (Nat.not_lt_zero j), hinv27.2⟩
    | succ j_ ih27 =>
      intro k hk27 B2 hinv27
      have hlt27 : k < 5 := by omega
      refine ev_b bX0_charge_27_30 (lv' := [(4, .int (nI (k))), (0, .ref 0), (1, .ref 5), (2, .ref 13), (3, .int (nI (wK S 1023)))]) (st' := [.int (nI (5)), .int (nI (k))]) (w2 := billW 0 B2 ++ saleW 5 S ++ outW 13 O) rfl ?_
      refine ev_icmp_ge_n (tgt := 63) (by omega) (by decide) dX0_charge_30 (by decide) (fun h30 => (by exfalso; omega)) (fun h30 => ?_)
      refine ev_b bX0_charge_33_48 (lv' := [(4, .int (nI (k))), (0, .ref 0), (1, .ref 5), (2, .ref 13), (3, .int (nI (wK S 1023)))]) (st' := [.int (nI (k)), .int (nI (1)), .ref 5, .int (nI (B2.wi)), .ref 5, .int (nI (k)), .ref 1]) (w2 := billW 0 B2 ++ saleW 5 S ++ outW 13 O) rfl ?_
      refine ev_ishl_n (by omega) dX0_charge_48 ?_
      refine ev_callVN (Yc := mX3_bidsOfGroup) [5, 6, 7, 8, 9, 10, 11, 12] dX0_charge_49 tn_601 kX3_bidsOfGroup (m_X3_bidsOfGroup S (1 <<< k) (one_shl_lt (by omega) (by decide))) rfl (st := [.int (nI (B2.wi)), .ref 5, .int (nI (k)), .ref 1]) rfl rfl rfl (by decide) hw_Bill0_Sale5_Out13__5 (by decide) (Nat.le_of_ble_eq_true rfl) (Nat.le_refl _) (Nat.le_refl _) (fun r w' h => by obtain ⟨-, rfl⟩ := h; exact Nat.le_of_ble_eq_true rfl) ?_
      rintro _ _ ⟨rfl, rfl⟩
      refine ev_eq (lv' := [(4, .int (nI (k))), (0, .ref 0), (1, .ref 5), (2, .ref 13), (3, .int (nI (wK S 1023)))]) (st' := [.int (nI (bgTo S.ow (1 <<< k) 5)), .int (nI (B2.wi)), .ref 5, .int (nI (k)), .ref 1]) (w' := billW 0 B2 ++ saleW 5 S ++ outW 13 O) rfl rfl xp_Bill0_Sale5_Out13__5 ?_
      refine ev_iand_n dX0_charge_52 ?_
      refine ev_callVN (Yc := mX3_pricesOf) [5, 6, 7, 8, 9, 10, 11, 12] dX0_charge_53 tn_602 kX3_pricesOf (m_X3_pricesOf S (B2.wi &&& bgTo S.ow (1 <<< k) 5) hS (Nat.lt_of_le_of_lt Nat.and_le_left (by rw [hinv27.2.1]; omega))) rfl (st := [.int (nI (k)), .ref 1]) rfl rfl rfl (by decide) hw_Bill0_Sale5_Out13__5 (by decide) (Nat.le_of_ble_eq_true rfl) (Nat.le_refl _) (Nat.le_refl _) (fun r w' h => by obtain ⟨-, rfl⟩ := h; exact Nat.le_of_ble_eq_true rfl) ?_
      rintro _ _ ⟨rfl, rfl⟩
      refine ev_eq (lv' := [(4, .int (nI (k))), (0, .ref 0), (1, .ref 5), (2, .ref 13), (3, .int (nI (wK S 1023)))]) (st' := [.int (nI (prTo S.pr (B2.wi &&& bgTo S.ow (1 <<< k) 5) S.ca)), .int (nI (k)), .ref 1]) (w' := billW 0 B2 ++ saleW 5 S ++ outW 13 O) rfl rfl xp_Bill0_Sale5_Out13__5 ?_
      refine ev_top (y := (nI (wonN S k))) (congrArg nI (show prTo S.pr (B2.wi &&& bgTo S.ow (1 <<< k) 5) S.ca = wonN S k from by rw [hinv27.2.1]; rfl)) ?_
      refine ev_top (y := zI (((wonN S k : Nat) : Int))) (zI_nat _).symm ?_
      refine ev_iast_z (f := B2.wo) dX0_charge_56 rfl (by omega) (by decide) ?_
      refine ev_eq (w' := billW 0 ((up B2.wo k (((wonN S k : Nat) : Int)), B2.ha, B2.li, B2.gw, B2.wi, B2.wr, B2.un, B2.lc) : BillN) ++ saleW 5 S ++ outW 13 O) rfl rfl rfl ?_
      refine ev_iinc_n (x := k) (v := 1) dX0_charge_57 rfl (by decide) ?_
      refine ev_eq (lv' := [(4, .int (nI (k + 1))), (0, .ref 0), (1, .ref 5), (2, .ref 13), (3, .int (nI (wK S 1023)))]) rfl rfl rfl ?_
      refine ev_b bX0_charge_60_27 (lv' := [(4, .int (nI (k + 1))), (0, .ref 0), (1, .ref 5), (2, .ref 13), (3, .int (nI (wK S 1023)))]) (st' := []) (w2 := billW 0 ((up B2.wo k (((wonN S k : Nat) : Int)), B2.ha, B2.li, B2.gw, B2.wi, B2.wr, B2.un, B2.lc) : BillN) ++ saleW 5 S ++ outW 13 O) rfl ?_
      rw [show nI (k + 1) = nI ((k + 1)) from congrArg nI (by omega)]
      exact ih27 (k + 1) (by omega) ((up B2.wo k (((wonN S k : Nat) : Int)), B2.ha, B2.li, B2.gw, B2.wi, B2.wr, B2.un, B2.lc) : BillN) ⟨won_up hinv27.1 rfl, hinv27.2⟩
  refine ev_pick (lv' := [(4, .int (nI (0))), (0, .ref 0), (1, .ref 5), (2, .ref 13), (3, .int (nI (wK S 1023)))]) rfl ?_
  exact L27 5 0 (by omega) _ ⟨fun j hj => absurd hj (Nat.not_lt_zero j), rfl, rfl, ⟨rfl, rfl, rfl, rfl⟩⟩
