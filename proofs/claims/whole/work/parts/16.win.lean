/-! ===== keys, and the winners of some bids ===== -/
theorem key_val {bits worth : Nat} (hb : bits < 1024) : keyN bits worth = (1023 - worth) * 16384 + pop bits * 1024 + bits := by
  have hp := pop_le bits
  have h1 : pop bits <<< 10 ||| bits = 2 ^ 10 * pop bits + bits := by
    rw [Nat.shiftLeft_eq, Nat.mul_comm, Nat.two_pow_add_eq_or_of_lt (show bits < 2 ^ 10 from hb)]
  have h2 : 2 ^ 10 * pop bits + bits < 2 ^ 14 := by
    have e1 : (2 : Nat) ^ 10 = 1024 := by decide
    have e2 : (2 : Nat) ^ 14 = 16384 := by decide
    rw [e1, e2]
    omega
  unfold keyN
  rw [Nat.or_assoc, h1, Nat.shiftLeft_eq, Nat.mul_comm, ← Nat.two_pow_add_eq_or_of_lt h2]
  have e1 : (2 : Nat) ^ 10 = 1024 := by decide
  have e2 : (2 : Nat) ^ 14 = 16384 := by decide
  rw [e1, e2]
  omega
theorem key_bids {bits worth : Nat} (hb : bits < 1024) : bidsN (keyN bits worth) = bits := by
  unfold bidsN
  rw [show (1023 : Nat) = 2 ^ 10 - 1 by decide, Nat.and_two_pow_sub_one_eq_mod, key_val hb]
  have e1 : (2 : Nat) ^ 10 = 1024 := by decide
  rw [e1]
  omega
theorem key_shr {bits worth : Nat} (hb : bits < 1024) : keyN bits worth >>> 14 = 1023 - worth := by
  have hp := pop_le bits
  rw [Nat.shiftRight_eq_div_pow, key_val hb]
  have e2 : (2 : Nat) ^ 14 = 16384 := by decide
  rw [e2]
  omega
theorem key_worth {bits worth : Nat} (hb : bits < 1024) (hw : worth ≤ 1023) : worthK (keyN bits worth) = worth := by
  unfold worthK
  rw [key_shr hb]
  omega
theorem key_lt {bits worth : Nat} (hb : bits < 1024) : keyN bits worth < 2147483647 := by
  have hp := pop_le bits
  rw [key_val hb]
  omega
def fstF (sm best k : Nat) : Nat := if k < best ∧ andn (bidsN k) sm = 0 then k else best
def firstLs (K : List Nat) (sm : Nat) : Nat := K.foldl (fstF sm) 2147483647
theorem first_take {O : OutN} {K : List Nat} (h : KeysL O K) (sm : Nat) : ∀ n, n ≤ K.length → firstTo O.ke sm n = firstLs (K.take n) sm
  | 0, _ => rfl
  | n + 1, hn => by
    have h1 : K[n]? = some K[n] := List.getElem?_eq_getElem hn
    rw [firstTo_s, first_take h sm n (by omega), take_get h1, h.2 n _ h1]
    unfold firstLs
    rw [List.foldl_append]
    rfl
theorem first_L {O : OutN} {K : List Nat} (h : KeysL O K) (sm : Nat) : firstTo O.ke sm O.sz = firstLs K sm := by
  rw [h.1, first_take h sm _ (Nat.le_refl _), List.take_length]
theorem fst_spec (sm : Nat) : ∀ (K : List Nat) (b : Nat), K.foldl (fstF sm) b ≤ b ∧ (∀ k ∈ K, andn (bidsN k) sm = 0 → K.foldl (fstF sm) b ≤ k) ∧ (K.foldl (fstF sm) b = b ∨ (K.foldl (fstF sm) b ∈ K ∧ andn (bidsN (K.foldl (fstF sm) b)) sm = 0))
  | [], b => ⟨Nat.le_refl _, (fun k h => by cases h), Or.inl rfl⟩
  | x :: K, b => by
    obtain ⟨h1, h2, h3⟩ := fst_spec sm K (fstF sm b x)
    have hb : fstF sm b x ≤ b ∧ (andn (bidsN x) sm = 0 → fstF sm b x ≤ x) ∧ (fstF sm b x = b ∨ (fstF sm b x = x ∧ andn (bidsN x) sm = 0)) := by
      unfold fstF
      by_cases hc : x < b ∧ andn (bidsN x) sm = 0
      · rw [if_pos hc]
        exact ⟨Nat.le_of_lt hc.1, fun _ => Nat.le_refl _, Or.inr ⟨rfl, hc.2⟩⟩
      · rw [if_neg hc]
        exact ⟨Nat.le_refl _, fun h => Nat.le_of_not_lt fun z => hc ⟨z, h⟩, Or.inl rfl⟩
    show K.foldl (fstF sm) (fstF sm b x) ≤ b ∧ (∀ k ∈ x :: K, _ → K.foldl (fstF sm) (fstF sm b x) ≤ k) ∧ (K.foldl (fstF sm) (fstF sm b x) = b ∨ (K.foldl (fstF sm) (fstF sm b x) ∈ x :: K ∧ andn (bidsN (K.foldl (fstF sm) (fstF sm b x))) sm = 0))
    refine ⟨Nat.le_trans h1 hb.1, fun k hk ha => ?_, ?_⟩
    · rcases List.mem_cons.mp hk with rfl | hk
      · exact Nat.le_trans h1 (hb.2.1 ha)
      · exact h2 k hk ha
    · rcases h3 with h3 | ⟨h3, h4⟩
      · rw [h3]
        rcases hb.2.2 with h5 | ⟨h5, h6⟩
        · exact Or.inl h5
        · rw [h5]
          exact Or.inr ⟨List.mem_cons_self, h6⟩
      · exact Or.inr ⟨List.mem_cons_of_mem _ h3, h4⟩
/-- an OUTCOME -/
def outc (S : SaleN) (m : Nat) : Prop := m ∈ packsN S S.ca ∧ allS S m
def wK (S : SaleN) (sm : Nat) : Nat := firstLs (keysOf S (packsN S S.ca)) sm
def winB (S : SaleN) (sm : Nat) : Nat := bidsN (wK S sm)
def winW (S : SaleN) (sm : Nat) : Nat := worthK (wK S sm)
theorem zero_pack (S : SaleN) : ∀ b, 0 ∈ packsN S b
  | 0 => List.mem_singleton.mpr rfl
  | b + 1 => by
    rw [packsN_s]
    split
    · exact List.mem_append_left _ (zero_pack S b)
    · exact zero_pack S b
theorem pop_0 : pop 0 = 0 := by decide
theorem zero_out (S : SaleN) : outc S 0 := by
  refine ⟨zero_pack S _, fun b hb => ?_⟩
  show mayP _ _ (pop (0 &&& S.ow b)) (prTo S.pr (0 &&& S.ow b) S.ca) (pop (itTo S.st (0 &&& S.ow b) S.ca))
  rw [Nat.zero_and, prTo_zero, itTo_zero, pop_0]
  unfold mayP
  omega
theorem outc_lt {S : SaleN} (hS : SaleOK S) {m : Nat} (h : outc S m) : m < 1024 := Nat.lt_of_lt_of_le (packsN_lt S _ m h.1) (pow_ca hS)
theorem outc_le {S : SaleN} (hS : SaleOK S) {m : Nat} (h : outc S m) : worthN S m ≤ 648 := worthN_le hS (Nat.le_refl _) h.1
theorem mem_keys {S : SaleN} {k : Nat} : k ∈ keysOf S (packsN S S.ca) ↔ ∃ m, outc S m ∧ k = keyS S m := by
  unfold keysOf
  constructor
  · intro h
    obtain ⟨m, h1, rfl⟩ := List.mem_map.mp h
    obtain ⟨h2, h3⟩ := List.mem_filter.mp h1
    exact ⟨m, ⟨h2, of_decide_eq_true h3⟩, rfl⟩
  · rintro ⟨m, ⟨h1, h2⟩, rfl⟩
    exact List.mem_map.mpr ⟨m, List.mem_filter.mpr ⟨h1, decide_eq_true h2⟩, rfl⟩
theorem wK_spec {S : SaleN} (hS : SaleOK S) (sm : Nat) : ∃ m, outc S m ∧ andn m sm = 0 ∧ wK S sm = keyS S m ∧ winB S sm = m ∧ winW S sm = worthN S m ∧ m < 1024 ∧ worthN S m ≤ 648 ∧ wK S sm < 2147483648 ∧ wK S sm >>> 14 ≤ 1023 ∧ ∀ m2, outc S m2 → andn m2 sm = 0 → keyS S m ≤ keyS S m2 := by
  obtain ⟨h1, h2, h3⟩ := fst_spec sm (keysOf S (packsN S S.ca)) 2147483647
  have h0 : andn (bidsN (keyS S 0)) sm = 0 := by
    unfold keyS
    rw [key_bids (by decide)]
    unfold andn
    rw [Nat.zero_and]
    rfl
  have hz := h2 (keyS S 0) (mem_keys.mpr ⟨0, zero_out S, rfl⟩) h0
  have hlt : keyS S 0 < 2147483647 := key_lt (by decide)
  change wK S sm ≤ keyS S 0 at hz
  change wK S sm = 2147483647 ∨ (wK S sm ∈ _ ∧ andn (bidsN (wK S sm)) sm = 0) at h3
  rcases h3 with h3 | ⟨h3, h4⟩
  · omega
  · obtain ⟨m, hm, e⟩ := mem_keys.mp h3
    have hm1 := outc_lt hS hm
    have hm2 := outc_le hS hm
    have eb : bidsN (wK S sm) = m := by rw [e]; exact key_bids hm1
    refine ⟨m, hm, by rw [← eb]; exact h4, e, eb, by unfold winW; rw [e]; exact key_worth hm1 (by omega), hm1, hm2, by omega, ?_, fun m2 hm3 h5 => ?_⟩
    · rw [e]
      unfold keyS
      rw [key_shr hm1]
      omega
    · rw [← e]
      refine h2 _ (mem_keys.mpr ⟨m2, hm3, rfl⟩) ?_
      unfold keyS
      rw [key_bids (outc_lt hS hm3)]
      exact h5
theorem keys_ok {O : OutN} {S : SaleN} (hS : SaleOK S) (h : KeysL O (keysOf S (packsN S S.ca))) : KeysOK O := by
  constructor
  · rw [h.1]
    exact Nat.le_trans keysOf_len (Nat.le_trans (packsN_len S _) (pow_ca hS))
  · intro k hk
    rw [h.1] at hk
    have h1 := List.getElem?_eq_getElem hk
    obtain ⟨m, hm, e⟩ := mem_keys.mp (List.mem_of_getElem? h1)
    rw [h.2 k _ h1, e]
    have := key_lt (worth := worthN S m) (outc_lt hS hm)
    unfold keyS
    omega
/-! ===== what the bidders won and pay ===== -/
def totZ (f : Nat → Int) (g : Nat) : Nat → Int
  | 0 => 0
  | k + 1 => totZ f g k + ((b01 (g.testBit k = true) : Nat) : Int) * f k
theorem totZ_s {f : Nat → Int} {g k : Nat} : totZ f g (k + 1) = totZ f g k + ((b01 (g.testBit k = true) : Nat) : Int) * f k := rfl
abbrev BillN : Type := (Nat → Int) × (Nat → Int) × (Nat → Int) × (Nat → Int) × Nat × Nat × Nat × Nat
abbrev BillN.wo (B : BillN) : Nat → Int := B.1
abbrev BillN.ha (B : BillN) : Nat → Int := B.2.1
abbrev BillN.li (B : BillN) : Nat → Int := B.2.2.1
abbrev BillN.gw (B : BillN) : Nat → Int := B.2.2.2.1
abbrev BillN.wi (B : BillN) : Nat := B.2.2.2.2.1
abbrev BillN.wr (B : BillN) : Nat := B.2.2.2.2.2.1
abbrev BillN.un (B : BillN) : Nat := B.2.2.2.2.2.2.1
abbrev BillN.lc (B : BillN) : Nat := B.2.2.2.2.2.2.2
def billW (b : Nat) (B : BillN) : AW := [.inr (1, [.ref (b + 1), .ref (b + 2), .ref (b + 3), .ref (b + 4), .int (nI B.wi), .int (nI B.wr), .int (nI B.un), .int (nI B.lc)]), .inl (0, 5, .inl (aZ B.wo)), .inl (0, 5, .inl (aZ B.ha)), .inl (0, 5, .inl (aZ B.li)), .inl (0, 32, .inl (aZ B.gw))]
def rowZ (_ : Nat) (f : Nat → Int) : AW := [.inl (0, 5, .inl (aZ f))]
def wonN (S : SaleN) (b : Nat) : Nat := prTo S.pr (winB S 1023 &&& bgTo S.ow (1 <<< b) 5) S.ca
def wonZ (S : SaleN) (b : Nat) : Int := ((wonN S b : Nat) : Int)
def harmF (S : SaleN) (f : Nat → Int) (g : Nat) : Int := ((winW S (andn 1023 (bgTo S.ow g 5)) : Nat) : Int) - (((winW S 1023 : Nat) : Int) - totZ f g 5)
def harmZ (S : SaleN) (g : Nat) : Int := harmF S (wonZ S) g
def paidZ (S : SaleN) (b : Nat) : Int := if wonN S b = 0 then 0 else harmZ S (1 <<< b)
/-- charged: what stands in the bill is of this sale -/
def Charged (B : BillN) (S : SaleN) : Prop := (∀ b, b < 5 → B.wo b = wonZ S b ∧ B.ha b = paidZ S b) ∧ B.wi = winB S 1023 ∧ B.wr = winW S 1023
theorem totZ_cong {f h : Nat → Int} {g : Nat} : ∀ n, (∀ k, k < n → f k = h k) → totZ f g n = totZ h g n
  | 0, _ => rfl
  | n + 1, e => by rw [totZ_s, totZ_s, totZ_cong n (fun k hk => e k (by omega)), e n (by omega)]
theorem harmF_cong {S : SaleN} {f : Nat → Int} {g : Nat} (e : ∀ k, k < 5 → f k = wonZ S k) : harmF S f g = harmZ S g := by
  unfold harmZ harmF
  rw [totZ_cong 5 e]
theorem wonN_le {S : SaleN} (hS : SaleOK S) (b : Nat) : wonN S b ≤ 990 := pr_le hS _
theorem winB_lt {S : SaleN} (hS : SaleOK S) (sm : Nat) : winB S sm < 1024 := by
  obtain ⟨m, h1, h2, h3, h4, h5, h6, -⟩ := wK_spec hS sm
  rw [h4]
  exact h6
theorem winW_le {S : SaleN} (hS : SaleOK S) (sm : Nat) : winW S sm ≤ 648 := by
  obtain ⟨m, h1, h2, h3, h4, h5, h6, h7, -⟩ := wK_spec hS sm
  rw [h5]
  exact h7
def BndZ (f : Nat → Int) : Prop := ∀ k, k < 5 → -100000 ≤ f k ∧ f k ≤ 100000
theorem totZ_bnd {f : Nat → Int} {g : Nat} (h : BndZ f) : ∀ n : Nat, n ≤ 5 → -100000 * (n : Int) ≤ totZ f g n ∧ totZ f g n ≤ 100000 * (n : Int)
  | 0, _ => by show _ ≤ (0 : Int) ∧ (0 : Int) ≤ _; omega
  | n + 1, hn => by
    have h1 := totZ_bnd (g := g) h n (by omega)
    have h2 := h n (by omega)
    rw [totZ_s]
    by_cases hc : g.testBit n = true
    · rw [b01_t hc]; omega
    · rw [b01_f hc]; omega
theorem totZ_b5 {f : Nat → Int} (h : BndZ f) (g : Nat) : -500000 ≤ totZ f g 5 ∧ totZ f g 5 ≤ 500000 := by
  have := totZ_bnd (g := g) h 5 (Nat.le_refl _)
  omega
/-- by how much a group blocks payments f -/
def excZ (B : BillN) (f : Nat → Int) (g : Nat) : Int := B.gw g - totZ f 31 5 - (totZ B.wo g 5 - totZ f g 5) - ((B.un : Nat) : Int)
def blkTo (B : BillN) (f : Nat → Int) : Nat → Int × Int
  | 0 => (0, -9)
  | g + 1 => if (blkTo B f g).1 < excZ B f g then (excZ B f g, (g : Int)) else blkTo B f g
theorem blkTo_s {B : BillN} {f : Nat → Int} {g : Nat} : blkTo B f (g + 1) = if (blkTo B f g).1 < excZ B f g then (excZ B f g, (g : Int)) else blkTo B f g := rfl
def BillB (B : BillN) (f : Nat → Int) : Prop := BndZ B.wo ∧ BndZ f ∧ (∀ g, g < 32 → -100000 ≤ B.gw g ∧ B.gw g ≤ 100000) ∧ B.un ≤ 100000
theorem excZ_bnd {B : BillN} {f : Nat → Int} (h : BillB B f) {g : Nat} (hg : g < 32) : -3000000 ≤ excZ B f g ∧ excZ B f g ≤ 3000000 := by
  have h1 := totZ_b5 h.1 g
  have h2 := totZ_b5 h.2.1 g
  have h3 := totZ_b5 h.2.1 31
  have h4 := h.2.2.1 g hg
  have h5 := h.2.2.2
  unfold excZ
  omega
theorem blkTo_bnd {B : BillN} {f : Nat → Int} (h : BillB B f) : ∀ g : Nat, g ≤ 32 → 0 ≤ (blkTo B f g).1 ∧ (blkTo B f g).1 ≤ 3000000 ∧ (blkTo B f g).2 < (g : Int) ∧ ((blkTo B f g).2 = -9 ∨ 0 ≤ (blkTo B f g).2)
  | 0, _ => by show (0 : Int) ≤ 0 ∧ (0 : Int) ≤ 3000000 ∧ (-9 : Int) < 0 ∧ ((-9 : Int) = -9 ∨ (0 : Int) ≤ -9); omega
  | g + 1, hg => by
    have h1 := blkTo_bnd h g (by omega)
    have h2 := excZ_bnd h (show g < 32 by omega)
    rw [blkTo_s]
    split
    · show 0 ≤ excZ B f g ∧ excZ B f g ≤ 3000000 ∧ (g : Int) < ((g + 1 : Nat) : Int) ∧ ((g : Int) = -9 ∨ 0 ≤ (g : Int)); omega
    · omega
/-- putting on the others -/
def putTo (won : Nat → Int) (g : Nat) (li : Nat → Int) (x : Int) : Nat → (Nat → Int) × Int
  | 0 => (li, x)
  | k + 1 => if g.testBit k = true then putTo won g li x k else (up (putTo won g li x k).1 k ((putTo won g li x k).1 k + min (putTo won g li x k).2 (won k - (putTo won g li x k).1 k)), (putTo won g li x k).2 - min (putTo won g li x k).2 (won k - (putTo won g li x k).1 k))
theorem putTo_s {won : Nat → Int} {g k : Nat} {li : Nat → Int} {x : Int} : putTo won g li x (k + 1) = if g.testBit k = true then putTo won g li x k else (up (putTo won g li x k).1 k ((putTo won g li x k).1 k + min (putTo won g li x k).2 (won k - (putTo won g li x k).1 k)), (putTo won g li x k).2 - min (putTo won g li x k).2 (won k - (putTo won g li x k).1 k)) := rfl

theorem bX0_total_0_4 {l : Launch} {E : XE} : Snd l E mX0_total 0 4 (xs [x_push (.int (nI 0)), x_istore 2, x_push (.int (nI 0)), x_istore 3]) := Snd.cons (snd_iconst (v := nI 0) dX0_total_0 (by decide)) (Snd.cons (snd_istore_n (i := 2) dX0_total_1 rfl (by decide)) (Snd.cons (snd_iconst (v := nI 0) dX0_total_2 (by decide)) (Snd.cons (snd_istore_n (i := 3) dX0_total_3 rfl (by decide)) Snd.nil)))
theorem bX0_total_4_7 {l : Launch} {E : XE} : Snd l E mX0_total 4 7 (xs [x_iload 3, x_aload 0, x_len]) := Snd.cons (snd_iload_n (i := 3) dX0_total_4 rfl) (Snd.cons (snd_aload_n (i := 0) dX0_total_5 rfl) (Snd.cons (snd_len dX0_total_6) Snd.nil))
theorem bX0_total_28_29 {l : Launch} {E : XE} : Snd l E mX0_total 28 29 (xs [x_iload 2]) := Snd.cons (snd_iload_n (i := 2) dX0_total_28 rfl) Snd.nil
theorem bX0_total_10_13 {l : Launch} {E : XE} : Snd l E mX0_total 10 13 (xs [x_iload 2, x_iload 1, x_iload 3]) := Snd.cons (snd_iload_n (i := 2) dX0_total_10 rfl) (Snd.cons (snd_iload_n (i := 1) dX0_total_11 rfl) (Snd.cons (snd_iload_n (i := 3) dX0_total_12 rfl) Snd.nil))
theorem bX0_total_16_18 {l : Launch} {E : XE} : Snd l E mX0_total 16 18 (xs [x_aload 0, x_iload 3]) := Snd.cons (snd_aload_n (i := 0) dX0_total_16 rfl) (Snd.cons (snd_iload_n (i := 3) dX0_total_17 rfl) Snd.nil)
theorem bX0_total_21_22 {l : Launch} {E : XE} : Snd l E mX0_total 21 22 (xs [x_istore 2]) := Snd.cons (snd_istore_n (i := 2) dX0_total_21 rfl (by decide)) Snd.nil
theorem bX0_total_25_4 {l : Launch} {E : XE} : Snd l E mX0_total 25 4 (xs [x_id]) := Snd.cons (snd_goto (tgt := 4) dX0_total_25 (by decide)) Snd.nil
set_option maxHeartbeats 4000000 in
set_option maxRecDepth 100000 in
theorem m_X0_total {l : Launch} {E : XE} (f : Nat → Int) (g : Nat) (hg : g < 2147483648) : MetE l E mX0_total (1) 0 0 [.ref 0, .int (nI (g))] (rowZ 0 f) (fun r w' => r = some (.int (zI (totZ f g 5))) ∧ w' = rowZ 0 f) := by
  refine MetE.of (by decide +kernel) (Nat.le_of_ble_eq_true rfl) ?_
  refine ev_eq (lv' := [(0, .ref 0), (1, .int (nI (g)))]) (st' := []) (w' := rowZ 0 f) rfl rfl rfl ?_
  refine ev_b bX0_total_0_4 (lv' := [(3, .int (nI (0))), (2, .int (nI (0))), (0, .ref 0), (1, .int (nI (g)))]) (st' := []) (w2 := rowZ 0 f) rfl ?_
  have L4 : ∀ (j_ k : Nat), k + j_ = 5 → Ev l E mX0_total (1) 0 0 (rowZ 0 f) (fun r w' => r = some (.int (zI (totZ f g 5))) ∧ w' = rowZ 0 f) 0 0 4 [(3, .int (nI (k))), (2, .int (zI (totZ f g k))), (0, .ref 0), (1, .int (nI (g)))] [] (rowZ 0 f) := by
    intro j_
    induction j_ with
    | zero =>
      intro k hk4  
      replace hk4 : k = 5 := hk4
      subst hk4
      refine ev_b bX0_total_4_7 (lv' := [(3, .int (nI (5))), (2, .int (zI (totZ f g 5))), (0, .ref 0), (1, .int (nI (g)))]) (st' := [.int (nI (5)), .int (nI (5))]) (w2 := rowZ 0 f) rfl ?_
      refine ev_icmp_ge_n (tgt := 28) (by decide) (by decide) dX0_total_7 (by decide) (fun h7 => ?_) (fun h7 => (by exfalso; omega))
      refine ev_b bX0_total_28_29 (lv' := [(3, .int (nI (5))), (2, .int (zI (totZ f g 5))), (0, .ref 0), (1, .int (nI (g)))]) (st' := [.int (zI (totZ f g 5))]) (w2 := rowZ 0 f) rfl ?_
      exact ev_iret dX0_total_29 rfl (Nat.le_of_ble_eq_true rfl) (Nat.le_refl _) (Nat.le_refl _) ⟨rfl, rfl⟩
    | succ j_ ih4 =>
      intro k hk4  
      have hlt4 : k < 5 := by omega
      refine ev_b bX0_total_4_7 (lv' := [(3, .int (nI (k))), (2, .int (zI (totZ f g k))), (0, .ref 0), (1, .int (nI (g)))]) (st' := [.int (nI (5)), .int (nI (k))]) (w2 := rowZ 0 f) rfl ?_
      refine ev_icmp_ge_n (tgt := 28) (by omega) (by decide) dX0_total_7 (by decide) (fun h7 => (by exfalso; omega)) (fun h7 => ?_)
      refine ev_b bX0_total_10_13 (lv' := [(3, .int (nI (k))), (2, .int (zI (totZ f g k))), (0, .ref 0), (1, .int (nI (g)))]) (st' := [.int (nI (k)), .int (nI (g)), .int (zI (totZ f g k))]) (w2 := rowZ 0 f) rfl ?_
      refine ev_callSN (Yc := mX6_bitAt) [] dX0_total_13 tn_610 kX6_bitAt (m_X6_bitAt g k hg (by omega)) rfl (st := [.int (zI (totZ f g k))]) rfl (by decide) rfl (by decide) (Nat.le_of_ble_eq_true rfl) (Nat.le_refl _) (Nat.le_refl _) (fun r w' h => by obtain ⟨-, rfl⟩ := h; exact Nat.le_of_ble_eq_true rfl) ?_
      rintro _ _ ⟨rfl, rfl⟩
      refine ev_eq (lv' := [(3, .int (nI (k))), (2, .int (zI (totZ f g k))), (0, .ref 0), (1, .int (nI (g)))]) (st' := [.int (nI (b01 (g.testBit k = true))), .int (zI (totZ f g k))]) (w' := rowZ 0 f) rfl rfl rfl ?_
      refine ev_b bX0_total_16_18 (lv' := [(3, .int (nI (k))), (2, .int (zI (totZ f g k))), (0, .ref 0), (1, .int (nI (g)))]) (st' := [.int (nI (k)), .ref 0, .int (nI (b01 (g.testBit k = true))), .int (zI (totZ f g k))]) (w2 := rowZ 0 f) rfl ?_
      refine ev_iald_z (f := f) dX0_total_18 rfl (by omega) (by decide) ?_
      refine ev_top2 (y := zI (((b01 (g.testBit k = true) : Nat) : Int))) (zI_nat _).symm ?_
      refine ev_imul_z dX0_total_19 ?_
      refine ev_iadd_z dX0_total_20 ?_
      refine ev_b bX0_total_21_22 (lv' := [(2, .int (zI ((totZ f g k) + ((((b01 (g.testBit k = true) : Nat) : Int)) * (f k))))), (3, .int (nI (k))), (0, .ref 0), (1, .int (nI (g)))]) (st' := []) (w2 := rowZ 0 f) rfl ?_
      refine ev_iinc_n (x := k) (v := 1) dX0_total_22 rfl (by decide) ?_
      refine ev_eq (lv' := [(3, .int (nI (k + 1))), (2, .int (zI ((totZ f g k) + ((((b01 (g.testBit k = true) : Nat) : Int)) * (f k))))), (0, .ref 0), (1, .int (nI (g)))]) rfl rfl rfl ?_
      refine ev_b bX0_total_25_4 (lv' := [(3, .int (nI (k + 1))), (2, .int (zI ((totZ f g k) + ((((b01 (g.testBit k = true) : Nat) : Int)) * (f k))))), (0, .ref 0), (1, .int (nI (g)))]) (st' := []) (w2 := rowZ 0 f) rfl ?_
      rw [show nI (k + 1) = nI ((k + 1)) from congrArg nI (by omega)]
      rw [show zI ((totZ f g k) + ((((b01 (g.testBit k = true) : Nat) : Int)) * (f k))) = zI (totZ f g (k + 1)) from congrArg zI (by exact rfl)]
      exact ih4 (k + 1) (by omega) 
  rw [show nI (0) = zI (totZ f g 0) from by rw [← zI_nat]; exact congrArg zI (by exact rfl)]
  exact L4 5 0 (by omega) 
theorem hw_Bill0_Sale5_Out13__5 {x0 : BillN} {x1 : SaleN} {x2 : OutN} : ([5, 6, 7, 8, 9, 10, 11, 12] : List Nat).map (fun i => (billW 0 x0 ++ saleW 5 x1 ++ outW 13 x2)[i]?) = (saleW 0 x1).map (fun e => some (xr ([5, 6, 7, 8, 9, 10, 11, 12] : List Nat) (billW 0 x0 ++ saleW 5 x1 ++ outW 13 x2).length e)) := rfl
theorem xp_Bill0_Sale5_Out13__5 {x0 : BillN} {x1 : SaleN} {x2 : OutN} {y0 : SaleN} : xput ([5, 6, 7, 8, 9, 10, 11, 12] : List Nat) (billW 0 x0 ++ saleW 5 x1 ++ outW 13 x2).length (billW 0 x0 ++ saleW 5 x1 ++ outW 13 x2) ([5, 6, 7, 8, 9, 10, 11, 12] : List Nat) (saleW 0 y0) = billW 0 x0 ++ saleW 5 y0 ++ outW 13 x2 := by
  have e0 : xput ([5, 6, 7, 8, 9, 10, 11, 12] : List Nat) (billW 0 x0 ++ saleW 5 x1 ++ outW 13 x2).length (billW 0 x0 ++ saleW 5 x1 ++ outW 13 x2) ([5, 6, 7, 8, 9, 10, 11, 12] : List Nat) (saleW 0 y0) = billW 0 x0 ++ saleW 5 y0 ++ outW 13 x2 := xput_blk (billW 0 x0) (saleW 5 x1) (outW 13 x2) (saleW 0 y0) rfl
  exact e0
theorem hw_Bill0_Sale5_Out13__13 {x0 : BillN} {x1 : SaleN} {x2 : OutN} : ([13, 14, 15, 16, 17] : List Nat).map (fun i => (billW 0 x0 ++ saleW 5 x1 ++ outW 13 x2)[i]?) = (outW 0 x2).map (fun e => some (xr ([13, 14, 15, 16, 17] : List Nat) (billW 0 x0 ++ saleW 5 x1 ++ outW 13 x2).length e)) := rfl
theorem xp_Bill0_Sale5_Out13__13 {x0 : BillN} {x1 : SaleN} {x2 : OutN} {y0 : OutN} : xput ([13, 14, 15, 16, 17] : List Nat) (billW 0 x0 ++ saleW 5 x1 ++ outW 13 x2).length (billW 0 x0 ++ saleW 5 x1 ++ outW 13 x2) ([13, 14, 15, 16, 17] : List Nat) (outW 0 y0) = billW 0 x0 ++ saleW 5 x1 ++ outW 13 y0 := by
  have e0 : xput ([13, 14, 15, 16, 17] : List Nat) (billW 0 x0 ++ saleW 5 x1 ++ outW 13 x2).length (billW 0 x0 ++ saleW 5 x1 ++ outW 13 x2) ([13, 14, 15, 16, 17] : List Nat) (outW 0 y0) = billW 0 x0 ++ saleW 5 x1 ++ outW 13 y0 := xput_blk (billW 0 x0 ++ (saleW 5 x1)) (outW 13 x2) ([]) (outW 0 y0) rfl
  exact e0
theorem bX0_harmBy_0_5 {l : Launch} {E : XE} : Snd l E mX0_harmBy 0 5 (xs [x_push (.int (nI 1023)), x_aload 1, x_iload 3]) := Snd.cons (snd_sipush (v := nI 1023) dX0_harmBy_0 (by decide)) (Snd.cons (snd_aload_n (i := 1) dX0_harmBy_3 rfl) (Snd.cons (snd_iload_n (i := 3) dX0_harmBy_4 rfl) Snd.nil))
theorem bX0_harmBy_8_10 {l : Launch} {E : XE} : Snd l E mX0_harmBy 8 10 (xs [x_push (.int (-1)), x_i2 (fun x y => x ^^^ y)]) := Snd.cons (snd_iconst (v := -1) dX0_harmBy_8 (by decide)) (Snd.cons (snd_ixor dX0_harmBy_9) Snd.nil)
theorem bX0_harmBy_11_16 {l : Launch} {E : XE} : Snd l E mX0_harmBy 11 16 (xs [x_istore 4, x_aload 2, x_iload 4]) := Snd.cons (snd_istore dX0_harmBy_11 (by decide)) (Snd.cons (snd_aload_n (i := 2) dX0_harmBy_13 rfl) (Snd.cons (snd_iload dX0_harmBy_14) Snd.nil))
theorem bX0_harmBy_22_31 {l : Launch} {E : XE} : Snd l E mX0_harmBy 22 31 (xs [x_aload 0, x_get 1 5, x_aload 0, x_get 1 0, x_iload 3]) := Snd.cons (snd_aload_n (i := 0) dX0_harmBy_22 rfl) (Snd.cons (snd_get (ci := 1) (k := 5) dX0_harmBy_23 rfl inX0 (by decide) tw_110) (Snd.cons (snd_aload_n (i := 0) dX0_harmBy_26 rfl) (Snd.cons (snd_get (ci := 1) (k := 0) dX0_harmBy_27 rfl inX0 (by decide) tw_102) (Snd.cons (snd_iload_n (i := 3) dX0_harmBy_30 rfl) Snd.nil))))
set_option maxHeartbeats 4000000 in
set_option maxRecDepth 100000 in
theorem m_X0_harmBy {l : Launch} {E : XE} (B : BillN) (S : SaleN) (O : OutN) (g : Nat) (hS : SaleOK S) (hK : KeysL O (keysOf S (packsN S S.ca))) (hg : g < 2147483648) (hwr : B.wr = winW S 1023) : MetE l E mX0_harmBy (2) 0 0 [.ref 0, .ref 5, .ref 13, .int (nI (g))] (billW 0 B ++ saleW 5 S ++ outW 13 O) (fun r w' => r = some (.int (zI (harmF S B.wo g))) ∧ w' = billW 0 B ++ saleW 5 S ++ outW 13 O) := by
  refine MetE.of (by decide +kernel) (Nat.le_of_ble_eq_true rfl) ?_
  have hKO := keys_ok hS hK
  obtain ⟨-, -, -, -, -, -, -, -, hk1, hk2, -⟩ := wK_spec hS (andn 1023 (bgTo S.ow g 5))
  refine ev_eq (lv' := [(0, .ref 0), (1, .ref 5), (2, .ref 13), (3, .int (nI (g)))]) (st' := []) (w' := billW 0 B ++ saleW 5 S ++ outW 13 O) rfl rfl rfl ?_
  refine ev_b bX0_harmBy_0_5 (lv' := [(0, .ref 0), (1, .ref 5), (2, .ref 13), (3, .int (nI (g)))]) (st' := [.int (nI (g)), .ref 5, .int (nI (1023))]) (w2 := billW 0 B ++ saleW 5 S ++ outW 13 O) rfl ?_
  refine ev_callVN (Yc := mX3_bidsOfGroup) [5, 6, 7, 8, 9, 10, 11, 12] dX0_harmBy_5 tn_601 kX3_bidsOfGroup (m_X3_bidsOfGroup S g hg) rfl (st := [.int (nI (1023))]) rfl rfl rfl (by decide) hw_Bill0_Sale5_Out13__5 (by decide) (Nat.le_of_ble_eq_true rfl) (Nat.le_refl _) (Nat.le_refl _) (fun r w' h => by obtain ⟨-, rfl⟩ := h; exact Nat.le_of_ble_eq_true rfl) ?_
  rintro _ _ ⟨rfl, rfl⟩
  refine ev_eq (lv' := [(0, .ref 0), (1, .ref 5), (2, .ref 13), (3, .int (nI (g)))]) (st' := [.int (nI (bgTo S.ow g 5)), .int (nI (1023))]) (w' := billW 0 B ++ saleW 5 S ++ outW 13 O) rfl rfl xp_Bill0_Sale5_Out13__5 ?_
  refine ev_b bX0_harmBy_8_10 (lv' := [(0, .ref 0), (1, .ref 5), (2, .ref 13), (3, .int (nI (g)))]) (st' := [.int (nI (bgTo S.ow g 5) ^^^ (-1)), .int (nI (1023))]) (w2 := billW 0 B ++ saleW 5 S ++ outW 13 O) rfl ?_
  refine ev_iandn_n dX0_harmBy_10 ?_
  refine ev_b bX0_harmBy_11_16 (lv' := [(4, .int (nI (andn 1023 (bgTo S.ow g 5)))), (0, .ref 0), (1, .ref 5), (2, .ref 13), (3, .int (nI (g)))]) (st' := [.int (nI (andn 1023 (bgTo S.ow g 5))), .ref 13]) (w2 := billW 0 B ++ saleW 5 S ++ outW 13 O) rfl ?_
  refine ev_callVN (Yc := mX1_first) [13, 14, 15, 16, 17] dX0_harmBy_16 tn_596 kX1_first (m_X1_first O (andn 1023 (bgTo S.ow g 5)) hKO) rfl (st := []) rfl rfl rfl (by decide) hw_Bill0_Sale5_Out13__13 (by decide) (Nat.le_of_ble_eq_true rfl) (Nat.le_refl _) (Nat.le_refl _) (fun r w' h => by obtain ⟨-, rfl⟩ := h; exact Nat.le_of_ble_eq_true rfl) ?_
  rintro _ _ ⟨rfl, rfl⟩
  refine ev_eq (lv' := [(4, .int (nI (andn 1023 (bgTo S.ow g 5)))), (0, .ref 0), (1, .ref 5), (2, .ref 13), (3, .int (nI (g)))]) (st' := [.int (nI (firstTo O.ke (andn 1023 (bgTo S.ow g 5)) O.sz))]) (w' := billW 0 B ++ saleW 5 S ++ outW 13 O) rfl rfl xp_Bill0_Sale5_Out13__13 ?_
  refine ev_top (y := (nI (wK S (andn 1023 (bgTo S.ow g 5))))) (congrArg nI (show firstTo O.ke (andn 1023 (bgTo S.ow g 5)) O.sz = wK S (andn 1023 (bgTo S.ow g 5)) from by exact first_L hK _)) ?_
  refine ev_callSN (Yc := mX1_worthIn) [] dX0_harmBy_19 tn_598 kX1_worthIn (m_X1_worthIn (wK S (andn 1023 (bgTo S.ow g 5))) hk1 hk2) rfl (st := []) rfl (by decide) rfl (by decide) (Nat.le_of_ble_eq_true rfl) (Nat.le_refl _) (Nat.le_refl _) (fun r w' h => by obtain ⟨-, rfl⟩ := h; exact Nat.le_of_ble_eq_true rfl) ?_
  rintro _ _ ⟨rfl, rfl⟩
  refine ev_eq (lv' := [(4, .int (nI (andn 1023 (bgTo S.ow g 5)))), (0, .ref 0), (1, .ref 5), (2, .ref 13), (3, .int (nI (g)))]) (st' := [.int (nI (worthK (wK S (andn 1023 (bgTo S.ow g 5)))))]) (w' := billW 0 B ++ saleW 5 S ++ outW 13 O) rfl rfl rfl ?_
  refine ev_top (y := (nI (winW S (andn 1023 (bgTo S.ow g 5))))) (congrArg nI (show worthK (wK S (andn 1023 (bgTo S.ow g 5))) = winW S (andn 1023 (bgTo S.ow g 5)) from by rfl)) ?_
  refine ev_b bX0_harmBy_22_31 (lv' := [(4, .int (nI (andn 1023 (bgTo S.ow g 5)))), (0, .ref 0), (1, .ref 5), (2, .ref 13), (3, .int (nI (g)))]) (st' := [.int (nI (g)), .ref 1, .int (nI (B.wr)), .int (nI (winW S (andn 1023 (bgTo S.ow g 5))))]) (w2 := billW 0 B ++ saleW 5 S ++ outW 13 O) rfl ?_
  refine ev_callS (Yc := mX0_total) [1] dX0_harmBy_31 tw_607 kX0_total (m_X0_total B.wo g hg) rfl (st := [.int (nI (B.wr)), .int (nI (winW S (andn 1023 (bgTo S.ow g 5))))]) rfl (by decide) rfl (by decide) (Nat.le_of_ble_eq_true rfl) (Nat.le_refl _) (Nat.le_refl _) (fun r w' h => by obtain ⟨-, rfl⟩ := h; exact Nat.le_of_ble_eq_true rfl) ?_
  rintro _ _ ⟨rfl, rfl⟩
  refine ev_eq (lv' := [(4, .int (nI (andn 1023 (bgTo S.ow g 5)))), (0, .ref 0), (1, .ref 5), (2, .ref 13), (3, .int (nI (g)))]) (st' := [.int (zI (totZ B.wo g 5)), .int (nI (B.wr)), .int (nI (winW S (andn 1023 (bgTo S.ow g 5))))]) (w' := billW 0 B ++ saleW 5 S ++ outW 13 O) rfl rfl rfl ?_
  refine ev_top2 (y := zI (((B.wr : Nat) : Int))) (zI_nat _).symm ?_
  refine ev_isub_z dX0_harmBy_34 ?_
  refine ev_top2 (y := zI (((winW S (andn 1023 (bgTo S.ow g 5)) : Nat) : Int))) (zI_nat _).symm ?_
  refine ev_isub_z dX0_harmBy_35 ?_
  exact ev_iret dX0_harmBy_36 rfl (Nat.le_of_ble_eq_true rfl) (Nat.le_refl _) (Nat.le_refl _) ⟨(congrArg (fun t => some (Value.int (zI t))) (show (((winW S (andn 1023 (bgTo S.ow g 5)) : Nat) : Int)) - ((((B.wr : Nat) : Int)) - (totZ B.wo g 5)) = harmF S B.wo g from by unfold harmF; rw [hwr])), rfl⟩
