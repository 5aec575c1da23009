theorem pr_up1 {S : SaleN} {b set p : Nat} (h : ∀ k, k < S.ca → 1 ≤ S.pr k) (hp : 1 ≤ p) : ∀ k, k < (addS S b set p).ca → 1 ≤ (addS S b set p).pr k := by
  intro k hk
  have hk : k < S.ca + 1 := hk
  show 1 ≤ up S.pr S.ca p k
  unfold up
  by_cases hkn : k = S.ca
  · rw [if_pos hkn]
    exact hp
  · rw [if_neg hkn]
    exact h k (by omega)
theorem pr_up2 {S : SaleN} {q p : Nat} (h : ∀ k, k < S.ca → 1 ≤ S.pr k) (hp : 1 ≤ p) : ∀ k, k < (priceS S q p).ca → 1 ≤ (priceS S q p).pr k := by
  intro k hk
  have hk : k < S.ca := hk
  show 1 ≤ up S.pr q p k
  unfold up
  by_cases hkn : k = q
  · rw [if_pos hkn]
    exact hp
  · rw [if_neg hkn]
    exact h k hk
theorem pr_letter {l : Launch} {E : XE} {T : TopN} {S P U : SaleN} {O : OutN} {B : BillN} {Q : SeaN} {C : ScrN} {R : PrtN} {tl rf : Nat → Nat} {M : ModN} {K : Option (Nat → Nat)} (z1 : Int) (r1 : -2147483648 ≤ z1 ∧ z1 < 2147483648) (hR : RelO T S P C.lt C.sz tl K) (hQ : Q.fd < 2147483648) (hM : MOK S (mkX M C T tl rf)) : PairE Value.int l E mX6_letter mX7_letter [.int (zI z1)] T S P U O B Q C R tl rf M K := by
  obtain ⟨hS, hpr, hKP, hsz, hlt, htc, htl⟩ := id hR
  have hca := hS.1
  by_cases h1 : z1 < 0
  · skip
    exact pair_mk (p_letter_4 T S P U O B Q C R tl rf z1 hS hQ ⟨by omega, by omega⟩ (by omega)) (q_letter_4 S (mkX M C T tl rf) K z1 hS hM ⟨by omega, by omega⟩ (by omega)) (hR) (Or.inl rfl) (Nat.le_of_ble_eq_true rfl) (Nat.le_of_ble_eq_true rfl) (Nat.le_of_ble_eq_true rfl) (Nat.le_of_ble_eq_true rfl)
  by_cases h2 : 255 < z1
  · skip
    exact pair_mk (p_letter_6 T S P U O B Q C R tl rf z1 hS hQ ⟨by omega, by omega⟩ (by omega)) (q_letter_6 S (mkX M C T tl rf) K z1 hS hM ⟨by omega, by omega⟩ (by omega)) (hR) (Or.inl rfl) (Nat.le_of_ble_eq_true rfl) (Nat.le_of_ble_eq_true rfl) (Nat.le_of_ble_eq_true rfl) (Nat.le_of_ble_eq_true rfl)
  by_cases h3 : C.sz = 96
  · skip
    obtain ⟨c, rfl⟩ := Int.eq_ofNat_of_zero_le (show 0 ≤ z1 from by omega)
    simp only [zI_nat]
    exact pair_mk (p_letter_6f T S P U O B Q C R tl rf c hS hQ (by omega) (by omega)) (q_letter_6f S (mkX M C T tl rf) K c hS hM (by omega) (show C.sz = 96 from by omega)) (hR) (Or.inl rfl) (Nat.le_of_ble_eq_true rfl) (Nat.le_of_ble_eq_true rfl) (Nat.le_of_ble_eq_true rfl) (Nat.le_of_ble_eq_true rfl)
  obtain ⟨c, rfl⟩ := Int.eq_ofNat_of_zero_le (show 0 ≤ z1 from by omega)
  simp only [zI_nat]
  exact pair_mk (p_letter_ok T S P U O B Q C R tl rf c hS hQ (by omega) (by omega)) (q_letter_ok S (mkX M C T tl rf) K c hS hM (by omega) (show C.sz < 96 from by omega)) (hR.typed (show C.sz + 1 ≤ 96 from by omega) (up_le hlt (by omega))) (Or.inl rfl) (Nat.le_of_ble_eq_true rfl) (Nat.le_of_ble_eq_true rfl) (Nat.le_of_ble_eq_true rfl) (Nat.le_of_ble_eq_true rfl)
theorem pr_bids {l : Launch} {E : XE} {T : TopN} {S P U : SaleN} {O : OutN} {B : BillN} {Q : SeaN} {C : ScrN} {R : PrtN} {tl rf : Nat → Nat} {M : ModN} {K : Option (Nat → Nat)} (z1 : Int) (z2 : Int) (z3 : Int) (r1 : -2147483648 ≤ z1 ∧ z1 < 2147483648) (r2 : -2147483648 ≤ z2 ∧ z2 < 2147483648) (r3 : -2147483648 ≤ z3 ∧ z3 < 2147483648) (hR : RelO T S P C.lt C.sz tl K) (hQ : Q.fd < 2147483648) (hM : MOK S (mkX M C T tl rf)) : PairE Value.int l E mX6_bids mX7_bids [.int (zI z1), .int (zI z2), .int (zI z3)] T S P U O B Q C R tl rf M K := by
  obtain ⟨hS, hpr, hKP, hsz, hlt, htc, htl⟩ := id hR
  have hca := hS.1
  by_cases h1 : ¬ (0 ≤ z1 ∧ z1 < 5)
  · skip
    exact pair_mk (p_bids_1 T S P U O B Q C R tl rf z1 z2 z3 hS hQ ⟨by omega, by omega⟩ ⟨by omega, by omega⟩ ⟨by omega, by omega⟩ (by omega)) (q_bids_1 S (mkX M C T tl rf) K z1 z2 z3 hS hM ⟨by omega, by omega⟩ ⟨by omega, by omega⟩ ⟨by omega, by omega⟩ (by omega)) (hR) (Or.inl rfl) (Nat.le_of_ble_eq_true rfl) (Nat.le_of_ble_eq_true rfl) (Nat.le_of_ble_eq_true rfl) (Nat.le_of_ble_eq_true rfl)
  by_cases h2 : z2 < 1
  · skip
    exact pair_mk (p_bids_4a T S P U O B Q C R tl rf z1 z2 z3 hS hQ ⟨by omega, by omega⟩ ⟨by omega, by omega⟩ ⟨by omega, by omega⟩ (by omega) (by omega)) (q_bids_4a S (mkX M C T tl rf) K z1 z2 z3 hS hM ⟨by omega, by omega⟩ ⟨by omega, by omega⟩ ⟨by omega, by omega⟩ (by omega) (by omega)) (hR) (Or.inl rfl) (Nat.le_of_ble_eq_true rfl) (Nat.le_of_ble_eq_true rfl) (Nat.le_of_ble_eq_true rfl) (Nat.le_of_ble_eq_true rfl)
  by_cases h3 : z3 < 1
  · skip
    exact pair_mk (p_bids_4b T S P U O B Q C R tl rf z1 z2 z3 hS hQ ⟨by omega, by omega⟩ ⟨by omega, by omega⟩ ⟨by omega, by omega⟩ (by omega) (by omega) (by omega)) (q_bids_4b S (mkX M C T tl rf) K z1 z2 z3 hS hM ⟨by omega, by omega⟩ ⟨by omega, by omega⟩ ⟨by omega, by omega⟩ (by omega) (by omega) (by omega)) (hR) (Or.inl rfl) (Nat.le_of_ble_eq_true rfl) (Nat.le_of_ble_eq_true rfl) (Nat.le_of_ble_eq_true rfl) (Nat.le_of_ble_eq_true rfl)
  by_cases h4 : 63 < z2
  · skip
    exact pair_mk (p_bids_6a T S P U O B Q C R tl rf z1 z2 z3 hS hQ ⟨by omega, by omega⟩ ⟨by omega, by omega⟩ ⟨by omega, by omega⟩ (by omega) (by omega) (by omega)) (q_bids_6a S (mkX M C T tl rf) K z1 z2 z3 hS hM ⟨by omega, by omega⟩ ⟨by omega, by omega⟩ ⟨by omega, by omega⟩ (by omega) (by omega) (by omega)) (hR) (Or.inl rfl) (Nat.le_of_ble_eq_true rfl) (Nat.le_of_ble_eq_true rfl) (Nat.le_of_ble_eq_true rfl) (Nat.le_of_ble_eq_true rfl)
  by_cases h5 : 99 < z3
  · skip
    exact pair_mk (p_bids_6b T S P U O B Q C R tl rf z1 z2 z3 hS hQ ⟨by omega, by omega⟩ ⟨by omega, by omega⟩ ⟨by omega, by omega⟩ (by omega) (by omega) (by omega)) (q_bids_6b S (mkX M C T tl rf) K z1 z2 z3 hS hM ⟨by omega, by omega⟩ ⟨by omega, by omega⟩ ⟨by omega, by omega⟩ (by omega) (by omega) (by omega)) (hR) (Or.inl rfl) (Nat.le_of_ble_eq_true rfl) (Nat.le_of_ble_eq_true rfl) (Nat.le_of_ble_eq_true rfl) (Nat.le_of_ble_eq_true rfl)
  by_cases h6 : S.ca = 10
  · skip
    exact pair_mk (p_bids_6c T S P U O B Q C R tl rf z1 z2 z3 hS hQ ⟨by omega, by omega⟩ ⟨by omega, by omega⟩ ⟨by omega, by omega⟩ (by omega) (by omega) (by omega) (by omega)) (q_bids_6c S (mkX M C T tl rf) K z1 z2 z3 hS hM ⟨by omega, by omega⟩ ⟨by omega, by omega⟩ ⟨by omega, by omega⟩ (by omega) (by omega) (by omega) (by omega)) (hR) (Or.inl rfl) (Nat.le_of_ble_eq_true rfl) (Nat.le_of_ble_eq_true rfl) (Nat.le_of_ble_eq_true rfl) (Nat.le_of_ble_eq_true rfl)
  obtain ⟨b, rfl⟩ := Int.eq_ofNat_of_zero_le (show 0 ≤ z1 from by omega)
  obtain ⟨set, rfl⟩ := Int.eq_ofNat_of_zero_le (show 0 ≤ z2 from by omega)
  obtain ⟨p, rfl⟩ := Int.eq_ofNat_of_zero_le (show 0 ≤ z3 from by omega)
  simp only [zI_nat]
  exact pair_mk (p_bids_ok T S P U O B Q C R tl rf b set p hS hQ (by omega) (by omega) (by omega) (by omega)) (q_bids_ok S (mkX M C T tl rf) K b set p hS hM (by omega) (by omega) (by omega) (by omega)) (hR.sale (add_ok hS (by omega) ⟨by omega, by omega⟩ (by omega) (by omega)) (pr_up1 hpr (by omega))) (Or.inl rfl) (Nat.le_of_ble_eq_true rfl) (Nat.le_of_ble_eq_true rfl) (Nat.le_of_ble_eq_true rfl) (Nat.le_of_ble_eq_true rfl)
theorem pr_turns {l : Launch} {E : XE} {T : TopN} {S P U : SaleN} {O : OutN} {B : BillN} {Q : SeaN} {C : ScrN} {R : PrtN} {tl rf : Nat → Nat} {M : ModN} {K : Option (Nat → Nat)} (z1 : Int) (r1 : -2147483648 ≤ z1 ∧ z1 < 2147483648) (hR : RelO T S P C.lt C.sz tl K) (hQ : Q.fd < 2147483648) (hM : MOK S (mkX M C T tl rf)) : PairE Value.int l E mX6_turns mX7_turns [.int (zI z1)] T S P U O B Q C R tl rf M K := by
  obtain ⟨hS, hpr, hKP, hsz, hlt, htc, htl⟩ := id hR
  have hca := hS.1
  by_cases h1 : ¬ (0 ≤ z1 ∧ z1 < S.ca)
  · skip
    exact pair_mk (p_turns_1 T S P U O B Q C R tl rf z1 hS hQ ⟨by omega, by omega⟩ (by omega)) (q_turns_1 S (mkX M C T tl rf) K z1 hS hM ⟨by omega, by omega⟩ (by omega)) (hR) (Or.inl rfl) (Nat.le_of_ble_eq_true rfl) (Nat.le_of_ble_eq_true rfl) (Nat.le_of_ble_eq_true rfl) (Nat.le_of_ble_eq_true rfl)
  obtain ⟨k, rfl⟩ := Int.eq_ofNat_of_zero_le (show 0 ≤ z1 from by omega)
  simp only [zI_nat]
  exact pair_mk (p_turns_ok T S P U O B Q C R tl rf k hS hQ (by omega)) (q_turns_ok S (mkX M C T tl rf) K k hS hM (by omega)) (hR.sale (turn_ok hS (by omega)) (hpr)) (Or.inl rfl) (Nat.le_of_ble_eq_true rfl) (Nat.le_of_ble_eq_true rfl) (Nat.le_of_ble_eq_true rfl) (Nat.le_of_ble_eq_true rfl)
theorem pr_price {l : Launch} {E : XE} {T : TopN} {S P U : SaleN} {O : OutN} {B : BillN} {Q : SeaN} {C : ScrN} {R : PrtN} {tl rf : Nat → Nat} {M : ModN} {K : Option (Nat → Nat)} (z1 : Int) (z2 : Int) (r1 : -2147483648 ≤ z1 ∧ z1 < 2147483648) (r2 : -2147483648 ≤ z2 ∧ z2 < 2147483648) (hR : RelO T S P C.lt C.sz tl K) (hQ : Q.fd < 2147483648) (hM : MOK S (mkX M C T tl rf)) : PairE Value.int l E mX6_price mX7_price [.int (zI z1), .int (zI z2)] T S P U O B Q C R tl rf M K := by
  obtain ⟨hS, hpr, hKP, hsz, hlt, htc, htl⟩ := id hR
  have hca := hS.1
  by_cases h1 : ¬ (0 ≤ z1 ∧ z1 < S.ca)
  · skip
    exact pair_mk (p_price_1 T S P U O B Q C R tl rf z1 z2 hS hQ ⟨by omega, by omega⟩ ⟨by omega, by omega⟩ (by omega)) (q_price_1 S (mkX M C T tl rf) K z1 z2 hS hM ⟨by omega, by omega⟩ ⟨by omega, by omega⟩ (by omega)) (hR) (Or.inl rfl) (Nat.le_of_ble_eq_true rfl) (Nat.le_of_ble_eq_true rfl) (Nat.le_of_ble_eq_true rfl) (Nat.le_of_ble_eq_true rfl)
  by_cases h2 : z2 < 1
  · skip
    exact pair_mk (p_price_4 T S P U O B Q C R tl rf z1 z2 hS hQ ⟨by omega, by omega⟩ ⟨by omega, by omega⟩ (by omega) (by omega)) (q_price_4 S (mkX M C T tl rf) K z1 z2 hS hM ⟨by omega, by omega⟩ ⟨by omega, by omega⟩ (by omega) (by omega)) (hR) (Or.inl rfl) (Nat.le_of_ble_eq_true rfl) (Nat.le_of_ble_eq_true rfl) (Nat.le_of_ble_eq_true rfl) (Nat.le_of_ble_eq_true rfl)
  by_cases h3 : 99 < z2
  · skip
    exact pair_mk (p_price_6 T S P U O B Q C R tl rf z1 z2 hS hQ ⟨by omega, by omega⟩ ⟨by omega, by omega⟩ (by omega) (by omega)) (q_price_6 S (mkX M C T tl rf) K z1 z2 hS hM ⟨by omega, by omega⟩ ⟨by omega, by omega⟩ (by omega) (by omega)) (hR) (Or.inl rfl) (Nat.le_of_ble_eq_true rfl) (Nat.le_of_ble_eq_true rfl) (Nat.le_of_ble_eq_true rfl) (Nat.le_of_ble_eq_true rfl)
  obtain ⟨k, rfl⟩ := Int.eq_ofNat_of_zero_le (show 0 ≤ z1 from by omega)
  obtain ⟨p, rfl⟩ := Int.eq_ofNat_of_zero_le (show 0 ≤ z2 from by omega)
  simp only [zI_nat]
  exact pair_mk (p_price_ok T S P U O B Q C R tl rf k p hS hQ (by omega) (by omega)) (q_price_ok S (mkX M C T tl rf) K k p hS hM (by omega) (by omega)) (hR.sale (price_ok hS (by omega)) (pr_up2 hpr (by omega))) (Or.inl rfl) (Nat.le_of_ble_eq_true rfl) (Nat.le_of_ble_eq_true rfl) (Nat.le_of_ble_eq_true rfl) (Nat.le_of_ble_eq_true rfl)
theorem pr_kind {l : Launch} {E : XE} {T : TopN} {S P U : SaleN} {O : OutN} {B : BillN} {Q : SeaN} {C : ScrN} {R : PrtN} {tl rf : Nat → Nat} {M : ModN} {K : Option (Nat → Nat)} (z1 : Int) (z2 : Int) (z3 : Int) (r1 : -2147483648 ≤ z1 ∧ z1 < 2147483648) (r2 : -2147483648 ≤ z2 ∧ z2 < 2147483648) (r3 : -2147483648 ≤ z3 ∧ z3 < 2147483648) (hR : RelO T S P C.lt C.sz tl K) (hQ : Q.fd < 2147483648) (hM : MOK S (mkX M C T tl rf)) : PairE Value.int l E mX6_kind mX7_kind [.int (zI z1), .int (zI z2), .int (zI z3)] T S P U O B Q C R tl rf M K := by
  obtain ⟨hS, hpr, hKP, hsz, hlt, htc, htl⟩ := id hR
  have hca := hS.1
  by_cases h1 : ¬ (0 ≤ z1 ∧ z1 < 5)
  · skip
    exact pair_mk (p_kind_1 T S P U O B Q C R tl rf z1 z2 z3 hS hQ ⟨by omega, by omega⟩ ⟨by omega, by omega⟩ ⟨by omega, by omega⟩ (by omega)) (q_kind_1 S (mkX M C T tl rf) K z1 z2 z3 hS hM ⟨by omega, by omega⟩ ⟨by omega, by omega⟩ ⟨by omega, by omega⟩ (by omega)) (hR) (Or.inl rfl) (Nat.le_of_ble_eq_true rfl) (Nat.le_of_ble_eq_true rfl) (Nat.le_of_ble_eq_true rfl) (Nat.le_of_ble_eq_true rfl)
  by_cases h2 : z2 < 0
  · skip
    exact pair_mk (p_kind_2a T S P U O B Q C R tl rf z1 z2 z3 hS hQ ⟨by omega, by omega⟩ ⟨by omega, by omega⟩ ⟨by omega, by omega⟩ (by omega) (by omega)) (q_kind_2a S (mkX M C T tl rf) K z1 z2 z3 hS hM ⟨by omega, by omega⟩ ⟨by omega, by omega⟩ ⟨by omega, by omega⟩ (by omega) (by omega)) (hR) (Or.inl rfl) (Nat.le_of_ble_eq_true rfl) (Nat.le_of_ble_eq_true rfl) (Nat.le_of_ble_eq_true rfl) (Nat.le_of_ble_eq_true rfl)
  by_cases h3 : 5 < z2
  · skip
    exact pair_mk (p_kind_2b T S P U O B Q C R tl rf z1 z2 z3 hS hQ ⟨by omega, by omega⟩ ⟨by omega, by omega⟩ ⟨by omega, by omega⟩ (by omega) (by omega)) (q_kind_2b S (mkX M C T tl rf) K z1 z2 z3 hS hM ⟨by omega, by omega⟩ ⟨by omega, by omega⟩ ⟨by omega, by omega⟩ (by omega) (by omega)) (hR) (Or.inl rfl) (Nat.le_of_ble_eq_true rfl) (Nat.le_of_ble_eq_true rfl) (Nat.le_of_ble_eq_true rfl) (Nat.le_of_ble_eq_true rfl)
  by_cases h4 : z3 < 0
  · skip
    exact pair_mk (p_kind_4 T S P U O B Q C R tl rf z1 z2 z3 hS hQ ⟨by omega, by omega⟩ ⟨by omega, by omega⟩ ⟨by omega, by omega⟩ (by omega) (by omega) (by omega)) (q_kind_4 S (mkX M C T tl rf) K z1 z2 z3 hS hM ⟨by omega, by omega⟩ ⟨by omega, by omega⟩ ⟨by omega, by omega⟩ (by omega) (by omega) (by omega)) (hR) (Or.inl rfl) (Nat.le_of_ble_eq_true rfl) (Nat.le_of_ble_eq_true rfl) (Nat.le_of_ble_eq_true rfl) (Nat.le_of_ble_eq_true rfl)
  by_cases h5 : 9 < z3
  · skip
    exact pair_mk (p_kind_6 T S P U O B Q C R tl rf z1 z2 z3 hS hQ ⟨by omega, by omega⟩ ⟨by omega, by omega⟩ ⟨by omega, by omega⟩ (by omega) (by omega) (by omega)) (q_kind_6 S (mkX M C T tl rf) K z1 z2 z3 hS hM ⟨by omega, by omega⟩ ⟨by omega, by omega⟩ ⟨by omega, by omega⟩ (by omega) (by omega) (by omega)) (hR) (Or.inl rfl) (Nat.le_of_ble_eq_true rfl) (Nat.le_of_ble_eq_true rfl) (Nat.le_of_ble_eq_true rfl) (Nat.le_of_ble_eq_true rfl)
  obtain ⟨b, rfl⟩ := Int.eq_ofNat_of_zero_le (show 0 ≤ z1 from by omega)
  obtain ⟨k, rfl⟩ := Int.eq_ofNat_of_zero_le (show 0 ≤ z2 from by omega)
  obtain ⟨f, rfl⟩ := Int.eq_ofNat_of_zero_le (show 0 ≤ z3 from by omega)
  simp only [zI_nat]
  exact pair_mk (p_kind_ok T S P U O B Q C R tl rf b k f hS hQ (by omega) (by omega) (by omega)) (q_kind_ok S (mkX M C T tl rf) K b k f hS hM (by omega) (by omega) (by omega)) (hR.sale (kind_ok hS (by omega) (by omega)) (hpr)) (Or.inl rfl) (Nat.le_of_ble_eq_true rfl) (Nat.le_of_ble_eq_true rfl) (Nat.le_of_ble_eq_true rfl) (Nat.le_of_ble_eq_true rfl)
theorem pr_keep {l : Launch} {E : XE} {T : TopN} {S P U : SaleN} {O : OutN} {B : BillN} {Q : SeaN} {C : ScrN} {R : PrtN} {tl rf : Nat → Nat} {M : ModN} {K : Option (Nat → Nat)} (z1 : Int) (z2 : Int) (r1 : -2147483648 ≤ z1 ∧ z1 < 2147483648) (r2 : -2147483648 ≤ z2 ∧ z2 < 2147483648) (hR : RelO T S P C.lt C.sz tl K) (hQ : Q.fd < 2147483648) (hM : MOK S (mkX M C T tl rf)) : PairE Value.int l E mX6_keep mX7_keep [.int (zI z1), .int (zI z2)] T S P U O B Q C R tl rf M K := by
  obtain ⟨hS, hpr, hKP, hsz, hlt, htc, htl⟩ := id hR
  have hca := hS.1
  by_cases h1 : ¬ (0 ≤ z1 ∧ z1 < 6)
  · skip
    exact pair_mk (p_keep_1 T S P U O B Q C R tl rf z1 z2 hS hQ ⟨by omega, by omega⟩ ⟨by omega, by omega⟩ (by omega)) (q_keep_1 S (mkX M C T tl rf) K z1 z2 hS hM ⟨by omega, by omega⟩ ⟨by omega, by omega⟩ (by omega)) (hR) (Or.inl rfl) (Nat.le_of_ble_eq_true rfl) (Nat.le_of_ble_eq_true rfl) (Nat.le_of_ble_eq_true rfl) (Nat.le_of_ble_eq_true rfl)
  by_cases h2 : z2 < 0
  · skip
    exact pair_mk (p_keep_4 T S P U O B Q C R tl rf z1 z2 hS hQ ⟨by omega, by omega⟩ ⟨by omega, by omega⟩ (by omega) (by omega)) (q_keep_4 S (mkX M C T tl rf) K z1 z2 hS hM ⟨by omega, by omega⟩ ⟨by omega, by omega⟩ (by omega) (by omega)) (hR) (Or.inl rfl) (Nat.le_of_ble_eq_true rfl) (Nat.le_of_ble_eq_true rfl) (Nat.le_of_ble_eq_true rfl) (Nat.le_of_ble_eq_true rfl)
  by_cases h3 : 9 < z2
  · skip
    exact pair_mk (p_keep_6 T S P U O B Q C R tl rf z1 z2 hS hQ ⟨by omega, by omega⟩ ⟨by omega, by omega⟩ (by omega) (by omega)) (q_keep_6 S (mkX M C T tl rf) K z1 z2 hS hM ⟨by omega, by omega⟩ ⟨by omega, by omega⟩ (by omega) (by omega)) (hR) (Or.inl rfl) (Nat.le_of_ble_eq_true rfl) (Nat.le_of_ble_eq_true rfl) (Nat.le_of_ble_eq_true rfl) (Nat.le_of_ble_eq_true rfl)
  obtain ⟨i, rfl⟩ := Int.eq_ofNat_of_zero_le (show 0 ≤ z1 from by omega)
  obtain ⟨v, rfl⟩ := Int.eq_ofNat_of_zero_le (show 0 ≤ z2 from by omega)
  simp only [zI_nat]
  exact pair_mk (p_keep_ok T S P U O B Q C R tl rf i v hS hQ (by omega) (by omega)) (q_keep_ok S (mkX M C T tl rf) K i v hS hM (by omega) (by omega)) (hR.sale (keep_ok hS (by omega)) (hpr)) (Or.inl rfl) (Nat.le_of_ble_eq_true rfl) (Nat.le_of_ble_eq_true rfl) (Nat.le_of_ble_eq_true rfl) (Nat.le_of_ble_eq_true rfl)
theorem pr_bid {l : Launch} {E : XE} {T : TopN} {S P U : SaleN} {O : OutN} {B : BillN} {Q : SeaN} {C : ScrN} {R : PrtN} {tl rf : Nat → Nat} {M : ModN} {K : Option (Nat → Nat)} (z1 : Int) (z2 : Int) (r1 : -2147483648 ≤ z1 ∧ z1 < 2147483648) (r2 : -2147483648 ≤ z2 ∧ z2 < 2147483648) (hR : RelO T S P C.lt C.sz tl K) (hQ : Q.fd < 2147483648) (hM : MOK S (mkX M C T tl rf)) : PairE Value.int l E mX6_bid mX7_bid [.int (zI z1), .int (zI z2)] T S P U O B Q C R tl rf M K := by
  obtain ⟨hS, hpr, hKP, hsz, hlt, htc, htl⟩ := id hR
  have hca := hS.1
  by_cases h1 : ¬ (0 ≤ z1 ∧ z1 < S.ca)
  · skip
    exact pair_mk (p_bid_1 T S P U O B Q C R tl rf z1 z2 hS hQ ⟨by omega, by omega⟩ ⟨by omega, by omega⟩ (by omega)) (q_bid_1 S (mkX M C T tl rf) K z1 z2 hS hM ⟨by omega, by omega⟩ ⟨by omega, by omega⟩ (by omega)) (hR) (Or.inl rfl) (Nat.le_of_ble_eq_true rfl) (Nat.le_of_ble_eq_true rfl) (Nat.le_of_ble_eq_true rfl) (Nat.le_of_ble_eq_true rfl)
  by_cases h2 : z2 < 0 ∨ 5 < z2
  · skip
    obtain ⟨k, rfl⟩ := Int.eq_ofNat_of_zero_le (show 0 ≤ z1 from by omega)
    simp only [zI_nat]
    exact pair_mk (p_bid_2 T S P U O B Q C R tl rf k z2 hS hQ ⟨by omega, by omega⟩ (by omega) (by omega)) (q_bid_2 S (mkX M C T tl rf) K k z2 hS hM ⟨by omega, by omega⟩ (by omega) (by omega)) (hR) (Or.inl rfl) (Nat.le_of_ble_eq_true rfl) (Nat.le_of_ble_eq_true rfl) (Nat.le_of_ble_eq_true rfl) (Nat.le_of_ble_eq_true rfl)
  by_cases h3 : z2 = 0
  · skip
    obtain ⟨k, rfl⟩ := Int.eq_ofNat_of_zero_le (show 0 ≤ z1 from by omega)
    obtain rfl : z2 = 0 := by omega
    simp only [zI_nat]
    rw [show zI 0 = nI 0 from by decide]
    exact pair_mk (p_bid_w0 T S P U O B Q C R tl rf k hS hQ (by omega)) (q_bid_w0 S (mkX M C T tl rf) K k hS hM (by omega)) (hR) (Or.inl rfl) (Nat.le_of_ble_eq_true rfl) (Nat.le_of_ble_eq_true rfl) (Nat.le_of_ble_eq_true rfl) (Nat.le_of_ble_eq_true rfl)
  by_cases h4 : z2 = 1
  · skip
    obtain ⟨k, rfl⟩ := Int.eq_ofNat_of_zero_le (show 0 ≤ z1 from by omega)
    obtain rfl : z2 = 1 := by omega
    simp only [zI_nat]
    rw [show zI 1 = nI 1 from by decide]
    exact pair_mk (p_bid_w1 T S P U O B Q C R tl rf k hS hQ (by omega)) (q_bid_w1 S (mkX M C T tl rf) K k hS hM (by omega)) (hR) (Or.inl rfl) (Nat.le_of_ble_eq_true rfl) (Nat.le_of_ble_eq_true rfl) (Nat.le_of_ble_eq_true rfl) (Nat.le_of_ble_eq_true rfl)
  by_cases h5 : z2 = 2
  · skip
    obtain ⟨k, rfl⟩ := Int.eq_ofNat_of_zero_le (show 0 ≤ z1 from by omega)
    obtain rfl : z2 = 2 := by omega
    simp only [zI_nat]
    rw [show zI 2 = nI 2 from by decide]
    exact pair_mk (p_bid_w2 T S P U O B Q C R tl rf k hS hQ (by omega)) (q_bid_w2 S (mkX M C T tl rf) K k hS hM (by omega)) (hR) (Or.inl rfl) (Nat.le_of_ble_eq_true rfl) (Nat.le_of_ble_eq_true rfl) (Nat.le_of_ble_eq_true rfl) (Nat.le_of_ble_eq_true rfl)
  by_cases h6 : z2 = 3
  · skip
    obtain ⟨k, rfl⟩ := Int.eq_ofNat_of_zero_le (show 0 ≤ z1 from by omega)
    obtain rfl : z2 = 3 := by omega
    simp only [zI_nat]
    rw [show zI 3 = nI 3 from by decide]
    exact pair_mk (p_bid_w3 T S P U O B Q C R tl rf k hS hQ (by omega)) (q_bid_w3 S (mkX M C T tl rf) K k hS hM (by omega)) (hR) (Or.inl rfl) (Nat.le_of_ble_eq_true rfl) (Nat.le_of_ble_eq_true rfl) (Nat.le_of_ble_eq_true rfl) (Nat.le_of_ble_eq_true rfl)
  by_cases h7 : z2 = 4
  · skip
    obtain ⟨k, rfl⟩ := Int.eq_ofNat_of_zero_le (show 0 ≤ z1 from by omega)
    obtain rfl : z2 = 4 := by omega
    simp only [zI_nat]
    rw [show zI 4 = nI 4 from by decide]
    exact pair_mk (p_bid_w4 T S P U O B Q C R tl rf k hS hQ (by omega)) (q_bid_w4 S (mkX M C T tl rf) K k hS hM (by omega)) (hR) (Or.inl rfl) (Nat.le_of_ble_eq_true rfl) (Nat.le_of_ble_eq_true rfl) (Nat.le_of_ble_eq_true rfl) (Nat.le_of_ble_eq_true rfl)
  obtain ⟨k, rfl⟩ := Int.eq_ofNat_of_zero_le (show 0 ≤ z1 from by omega)
  obtain rfl : z2 = 5 := by omega
  simp only [zI_nat]
  rw [show zI 5 = nI 5 from by decide]
  exact pair_mk (p_bid_w5 T S P U O B Q C R tl rf k hS hQ (by omega)) (q_bid_w5 S (mkX M C T tl rf) K k hS hM (by omega)) (hR) (Or.inl rfl) (Nat.le_of_ble_eq_true rfl) (Nat.le_of_ble_eq_true rfl) (Nat.le_of_ble_eq_true rfl) (Nat.le_of_ble_eq_true rfl)
theorem pr_bidder {l : Launch} {E : XE} {T : TopN} {S P U : SaleN} {O : OutN} {B : BillN} {Q : SeaN} {C : ScrN} {R : PrtN} {tl rf : Nat → Nat} {M : ModN} {K : Option (Nat → Nat)} (z1 : Int) (z2 : Int) (r1 : -2147483648 ≤ z1 ∧ z1 < 2147483648) (r2 : -2147483648 ≤ z2 ∧ z2 < 2147483648) (hR : RelO T S P C.lt C.sz tl K) (hQ : Q.fd < 2147483648) (hM : MOK S (mkX M C T tl rf)) : PairE Value.int l E mX6_bidder mX7_bidder [.int (zI z1), .int (zI z2)] T S P U O B Q C R tl rf M K := by
  obtain ⟨hS, hpr, hKP, hsz, hlt, htc, htl⟩ := id hR
  have hca := hS.1
  by_cases h1 : ¬ (0 ≤ z1 ∧ z1 < 5)
  · skip
    exact pair_mk (p_bidder_1 T S P U O B Q C R tl rf z1 z2 hS hQ ⟨by omega, by omega⟩ ⟨by omega, by omega⟩ (by omega)) (q_bidder_1 S (mkX M C T tl rf) K z1 z2 hS hM ⟨by omega, by omega⟩ ⟨by omega, by omega⟩ (by omega)) (hR) (Or.inl rfl) (Nat.le_of_ble_eq_true rfl) (Nat.le_of_ble_eq_true rfl) (Nat.le_of_ble_eq_true rfl) (Nat.le_of_ble_eq_true rfl)
  by_cases h2 : z2 < 0 ∨ 4 < z2
  · skip
    obtain ⟨b, rfl⟩ := Int.eq_ofNat_of_zero_le (show 0 ≤ z1 from by omega)
    simp only [zI_nat]
    exact pair_mk (p_bidder_2 T S P U O B Q C R tl rf b z2 hS hQ ⟨by omega, by omega⟩ (by omega) (by omega)) (q_bidder_2 S (mkX M C T tl rf) K b z2 hS hM ⟨by omega, by omega⟩ (by omega) (by omega)) (hR) (Or.inl rfl) (Nat.le_of_ble_eq_true rfl) (Nat.le_of_ble_eq_true rfl) (Nat.le_of_ble_eq_true rfl) (Nat.le_of_ble_eq_true rfl)
  by_cases h3 : z2 = 0
  · skip
    obtain ⟨b, rfl⟩ := Int.eq_ofNat_of_zero_le (show 0 ≤ z1 from by omega)
    obtain rfl : z2 = 0 := by omega
    simp only [zI_nat]
    rw [show zI 0 = nI 0 from by decide]
    exact pair_mk (p_bidder_w0 T S P U O B Q C R tl rf b hS hQ (by omega)) (q_bidder_w0 S (mkX M C T tl rf) K b hS hM (by omega)) (hR) (Or.inl rfl) (Nat.le_of_ble_eq_true rfl) (Nat.le_of_ble_eq_true rfl) (Nat.le_of_ble_eq_true rfl) (Nat.le_of_ble_eq_true rfl)
  by_cases h4 : z2 = 1
  · skip
    obtain ⟨b, rfl⟩ := Int.eq_ofNat_of_zero_le (show 0 ≤ z1 from by omega)
    obtain rfl : z2 = 1 := by omega
    simp only [zI_nat]
    rw [show zI 1 = nI 1 from by decide]
    exact pair_mk (p_bidder_w1 T S P U O B Q C R tl rf b hS hQ (by omega)) (q_bidder_w1 S (mkX M C T tl rf) K b hS hM (by omega)) (hR) (Or.inl rfl) (Nat.le_of_ble_eq_true rfl) (Nat.le_of_ble_eq_true rfl) (Nat.le_of_ble_eq_true rfl) (Nat.le_of_ble_eq_true rfl)
  by_cases h5 : z2 = 2
  · skip
    obtain ⟨b, rfl⟩ := Int.eq_ofNat_of_zero_le (show 0 ≤ z1 from by omega)
    obtain rfl : z2 = 2 := by omega
    simp only [zI_nat]
    rw [show zI 2 = nI 2 from by decide]
    exact pair_mk (p_bidder_w2 T S P U O B Q C R tl rf b hS hQ (by omega)) (q_bidder_w2 S (mkX M C T tl rf) K b hS hM (by omega)) (hR) (Or.inl rfl) (Nat.le_of_ble_eq_true rfl) (Nat.le_of_ble_eq_true rfl) (Nat.le_of_ble_eq_true rfl) (Nat.le_of_ble_eq_true rfl)
  by_cases h6 : z2 = 3
  · skip
    obtain ⟨b, rfl⟩ := Int.eq_ofNat_of_zero_le (show 0 ≤ z1 from by omega)
    obtain rfl : z2 = 3 := by omega
    simp only [zI_nat]
    rw [show zI 3 = nI 3 from by decide]
    exact pair_mk (p_bidder_w3 T S P U O B Q C R tl rf b hS hQ (by omega)) (q_bidder_w3 S (mkX M C T tl rf) K b hS hM (by omega)) (hR) (Or.inl rfl) (Nat.le_of_ble_eq_true rfl) (Nat.le_of_ble_eq_true rfl) (Nat.le_of_ble_eq_true rfl) (Nat.le_of_ble_eq_true rfl)
  obtain ⟨b, rfl⟩ := Int.eq_ofNat_of_zero_le (show 0 ≤ z1 from by omega)
  obtain rfl : z2 = 4 := by omega
  simp only [zI_nat]
  rw [show zI 4 = nI 4 from by decide]
  exact pair_mk (p_bidder_w4 T S P U O B Q C R tl rf b hS hQ (by omega)) (q_bidder_w4 S (mkX M C T tl rf) K b hS hM (by omega)) (hR) (Or.inl rfl) (Nat.le_of_ble_eq_true rfl) (Nat.le_of_ble_eq_true rfl) (Nat.le_of_ble_eq_true rfl) (Nat.le_of_ble_eq_true rfl)
theorem pr_may {l : Launch} {E : XE} {T : TopN} {S P U : SaleN} {O : OutN} {B : BillN} {Q : SeaN} {C : ScrN} {R : PrtN} {tl rf : Nat → Nat} {M : ModN} {K : Option (Nat → Nat)} (z1 : Int) (r1 : -2147483648 ≤ z1 ∧ z1 < 2147483648) (hR : RelO T S P C.lt C.sz tl K) (hQ : Q.fd < 2147483648) (hM : MOK S (mkX M C T tl rf)) : PairE Value.int l E mX6_may mX7_may [.int (zI z1)] T S P U O B Q C R tl rf M K := by
  obtain ⟨hS, hpr, hKP, hsz, hlt, htc, htl⟩ := id hR
  have hca := hS.1
  by_cases h1 : z1 < 0
  · skip
    exact pair_mk (p_may_4 T S P U O B Q C R tl rf z1 hS hQ ⟨by omega, by omega⟩ (by omega)) (q_may_4 S (mkX M C T tl rf) K z1 hS hM ⟨by omega, by omega⟩ (by omega)) (hR) (Or.inl rfl) (Nat.le_of_ble_eq_true rfl) (Nat.le_of_ble_eq_true rfl) (Nat.le_of_ble_eq_true rfl) (Nat.le_of_ble_eq_true rfl)
  obtain ⟨x, rfl⟩ := Int.eq_ofNat_of_zero_le (show 0 ≤ z1 from by omega)
  have hx2 : x < 2147483648 := by omega
  by_cases hx : 1 <<< S.ca ≤ x
  · skip
    simp only [zI_nat]
    exact pair_mk (p_may_6 T S P U O B Q C R tl rf x hS hQ hx2 hx) (q_may_6 S (mkX M C T tl rf) K x hS hM hx2 hx) (hR) (Or.inl rfl) (Nat.le_of_ble_eq_true rfl) (Nat.le_of_ble_eq_true rfl) (Nat.le_of_ble_eq_true rfl) (Nat.le_of_ble_eq_true rfl)
  simp only [zI_nat]
  exact pair_mk (p_may_ok T S P U O B Q C R tl rf x hS hQ (Nat.lt_of_not_le hx)) (q_may_ok S (mkX M C T tl rf) K x hS hM (Nat.lt_of_not_le hx)) (hR) (Or.inl rfl) (Nat.le_of_ble_eq_true rfl) (Nat.le_of_ble_eq_true rfl) (Nat.le_of_ble_eq_true rfl) (Nat.le_of_ble_eq_true rfl)
theorem pr_of {l : Launch} {E : XE} {T : TopN} {S P U : SaleN} {O : OutN} {B : BillN} {Q : SeaN} {C : ScrN} {R : PrtN} {tl rf : Nat → Nat} {M : ModN} {K : Option (Nat → Nat)} (z1 : Int) (z2 : Int) (r1 : -2147483648 ≤ z1 ∧ z1 < 2147483648) (r2 : -2147483648 ≤ z2 ∧ z2 < 2147483648) (hR : RelO T S P C.lt C.sz tl K) (hQ : Q.fd < 2147483648) (hM : MOK S (mkX M C T tl rf)) : PairE Value.int l E mX6_of mX7_of [.int (zI z1), .int (zI z2)] T S P U O B Q C R tl rf M K := by
  obtain ⟨hS, hpr, hKP, hsz, hlt, htc, htl⟩ := id hR
  have hca := hS.1
  by_cases h1 : z1 < 0
  · skip
    exact pair_mk (p_of_4 T S P U O B Q C R tl rf z1 z2 hS hQ ⟨by omega, by omega⟩ ⟨by omega, by omega⟩ (by omega)) (q_of_4 S (mkX M C T tl rf) K z1 z2 hS hM ⟨by omega, by omega⟩ ⟨by omega, by omega⟩ (by omega)) (hR) (Or.inl rfl) (Nat.le_of_ble_eq_true rfl) (Nat.le_of_ble_eq_true rfl) (Nat.le_of_ble_eq_true rfl) (Nat.le_of_ble_eq_true rfl)
  obtain ⟨x, rfl⟩ := Int.eq_ofNat_of_zero_le (show 0 ≤ z1 from by omega)
  have hx2 : x < 2147483648 := by omega
  by_cases hx : 1 <<< S.ca ≤ x
  · skip
    simp only [zI_nat]
    exact pair_mk (p_of_6 T S P U O B Q C R tl rf x z2 hS hQ hx2 hx) (q_of_6 S (mkX M C T tl rf) K x z2 hS hM hx2 hx) (hR) (Or.inl rfl) (Nat.le_of_ble_eq_true rfl) (Nat.le_of_ble_eq_true rfl) (Nat.le_of_ble_eq_true rfl) (Nat.le_of_ble_eq_true rfl)
  by_cases h1 : ¬ (z2 = 0 ∨ z2 = 1)
  · skip
    simp only [zI_nat]
    exact pair_mk (p_of_2 T S P U O B Q C R tl rf x z2 hS hQ ⟨by omega, by omega⟩ (Nat.lt_of_not_le hx) (by omega)) (q_of_2 S (mkX M C T tl rf) K x z2 hS hM ⟨by omega, by omega⟩ (Nat.lt_of_not_le hx) (by omega)) (hR) (Or.inl rfl) (Nat.le_of_ble_eq_true rfl) (Nat.le_of_ble_eq_true rfl) (Nat.le_of_ble_eq_true rfl) (Nat.le_of_ble_eq_true rfl)
  by_cases h2 : z2 = 0
  · skip
    obtain rfl : z2 = 0 := by omega
    simp only [zI_nat]
    rw [show zI 0 = nI 0 from by decide]
    exact pair_mk (p_of_w0 T S P U O B Q C R tl rf x hS hQ (Nat.lt_of_not_le hx)) (q_of_w0 S (mkX M C T tl rf) K x hS hM (Nat.lt_of_not_le hx)) (hR) (Or.inl rfl) (Nat.le_of_ble_eq_true rfl) (Nat.le_of_ble_eq_true rfl) (Nat.le_of_ble_eq_true rfl) (Nat.le_of_ble_eq_true rfl)
  obtain rfl : z2 = 1 := by omega
  simp only [zI_nat]
  rw [show zI 1 = nI 1 from by decide]
  exact pair_mk (p_of_w1 T S P U O B Q C R tl rf x hS hQ (Nat.lt_of_not_le hx)) (q_of_w1 S (mkX M C T tl rf) K x hS hM (Nat.lt_of_not_le hx)) (hR) (Or.inl rfl) (Nat.le_of_ble_eq_true rfl) (Nat.le_of_ble_eq_true rfl) (Nat.le_of_ble_eq_true rfl) (Nat.le_of_ble_eq_true rfl)
theorem pr_winners {l : Launch} {E : XE} {T : TopN} {S P U : SaleN} {O : OutN} {B : BillN} {Q : SeaN} {C : ScrN} {R : PrtN} {tl rf : Nat → Nat} {M : ModN} {K : Option (Nat → Nat)} (z1 : Int) (r1 : -2147483648 ≤ z1 ∧ z1 < 2147483648) (hR : RelO T S P C.lt C.sz tl K) (hQ : Q.fd < 2147483648) (hM : MOK S (mkX M C T tl rf)) : PairE Value.int l E mX6_winners mX7_winners [.int (zI z1)] T S P U O B Q C R tl rf M K := by
  obtain ⟨hS, hpr, hKP, hsz, hlt, htc, htl⟩ := id hR
  have hca := hS.1
  by_cases h1 : z1 < 0 ∨ 3 < z1
  · skip
    exact pair_mk (p_winners_2 T S P U O B Q C R tl rf z1 hS hQ ⟨by omega, by omega⟩ (by omega)) (q_winners_2 S (mkX M C T tl rf) K z1 hS hM ⟨by omega, by omega⟩ (by omega)) (hR) (Or.inl rfl) (Nat.le_of_ble_eq_true rfl) (Nat.le_of_ble_eq_true rfl) (Nat.le_of_ble_eq_true rfl) (Nat.le_of_ble_eq_true rfl)
  by_cases h2 : z1 = 0
  · skip
    obtain rfl : z1 = 0 := by omega
    rw [show zI 0 = nI 0 from by decide]
    exact pair_mk (p_winners_w0 T S P U O B Q C R tl rf hS hQ) (q_winners_w0 S (mkX M C T tl rf) K hS hM) (hR) (Or.inl rfl) (Nat.le_of_ble_eq_true rfl) (Nat.le_of_ble_eq_true rfl) (Nat.le_of_ble_eq_true rfl) (Nat.le_of_ble_eq_true rfl)
  by_cases h3 : z1 = 1
  · skip
    obtain rfl : z1 = 1 := by omega
    rw [show zI 1 = nI 1 from by decide]
    exact pair_mk (p_winners_w1 T S P U O B Q C R tl rf hS hQ) (q_winners_w1 S (mkX M C T tl rf) K hS hM) (hR) (Or.inl rfl) (Nat.le_of_ble_eq_true rfl) (Nat.le_of_ble_eq_true rfl) (Nat.le_of_ble_eq_true rfl) (Nat.le_of_ble_eq_true rfl)
  by_cases h4 : z1 = 2
  · skip
    obtain rfl : z1 = 2 := by omega
    rw [show zI 2 = nI 2 from by decide]
    exact pair_mk (p_winners_w2 T S P U O B Q C R tl rf hS hQ) (q_winners_w2 S (mkX M C T tl rf) K hS hM) (hR) (Or.inl rfl) (Nat.le_of_ble_eq_true rfl) (Nat.le_of_ble_eq_true rfl) (Nat.le_of_ble_eq_true rfl) (Nat.le_of_ble_eq_true rfl)
  obtain rfl : z1 = 3 := by omega
  rw [show zI 3 = nI 3 from by decide]
  cases K with
  | none => exact pair_mk (p_winners_w3 T S P U O B Q C R tl rf hS hQ) (q_winners_w3_n S (mkX M C T tl rf) hS hM) (hR) (Or.inl rfl) (Nat.le_of_ble_eq_true rfl) (Nat.le_of_ble_eq_true rfl) (Nat.le_of_ble_eq_true rfl) (Nat.le_of_ble_eq_true rfl)
  | some kf => exact pair_mk (p_winners_w3 T S P U O B Q C R tl rf hS hQ) (q_winners_w3_s S (mkX M C T tl rf) kf hS hM) (hR) (Or.inl rfl) (Nat.le_of_ble_eq_true rfl) (Nat.le_of_ble_eq_true rfl) (Nat.le_of_ble_eq_true rfl) (Nat.le_of_ble_eq_true rfl)
theorem pr_rank {l : Launch} {E : XE} {T : TopN} {S P U : SaleN} {O : OutN} {B : BillN} {Q : SeaN} {C : ScrN} {R : PrtN} {tl rf : Nat → Nat} {M : ModN} {K : Option (Nat → Nat)} (z1 : Int) (z2 : Int) (r1 : -2147483648 ≤ z1 ∧ z1 < 2147483648) (r2 : -2147483648 ≤ z2 ∧ z2 < 2147483648) (hR : RelO T S P C.lt C.sz tl K) (hQ : Q.fd < 2147483648) (hM : MOK S (mkX M C T tl rf)) : PairE Value.int l E mX6_rank mX7_rank [.int (zI z1), .int (zI z2)] T S P U O B Q C R tl rf M K := by
  obtain ⟨hS, hpr, hKP, hsz, hlt, htc, htl⟩ := id hR
  have hca := hS.1
  by_cases h1 : z1 < 0
  · skip
    exact pair_mk (p_rank_4 T S P U O B Q C R tl rf z1 z2 hS hQ ⟨by omega, by omega⟩ ⟨by omega, by omega⟩ (by omega)) (q_rank_4 S (mkX M C T tl rf) K z1 z2 hS hM ⟨by omega, by omega⟩ ⟨by omega, by omega⟩ (by omega)) (hR) (Or.inl rfl) (Nat.le_of_ble_eq_true rfl) (Nat.le_of_ble_eq_true rfl) (Nat.le_of_ble_eq_true rfl) (Nat.le_of_ble_eq_true rfl)
  by_cases h2 : ¬ (z2 = 0 ∨ z2 = 1)
  · skip
    exact pair_mk (p_rank_2 T S P U O B Q C R tl rf z1 z2 hS hQ ⟨by omega, by omega⟩ ⟨by omega, by omega⟩ (by omega) (by omega)) (q_rank_2 S (mkX M C T tl rf) K z1 z2 hS hM ⟨by omega, by omega⟩ ⟨by omega, by omega⟩ (by omega) (by omega)) (hR) (Or.inl rfl) (Nat.le_of_ble_eq_true rfl) (Nat.le_of_ble_eq_true rfl) (Nat.le_of_ble_eq_true rfl) (Nat.le_of_ble_eq_true rfl)
  obtain ⟨k, rfl⟩ := Int.eq_ofNat_of_zero_le (show 0 ≤ z1 from by omega)
  have hk2 : k < 2147483648 := by omega
  by_cases hl : k < (keysOf S (packsN S S.ca)).length
  · skip
    by_cases h1 : z2 = 0
    · skip
      obtain rfl : z2 = 0 := by omega
      simp only [zI_nat]
      rw [show zI 0 = nI 0 from by decide]
      exact pair_mk (p_rank_w0 T S P U O B Q C R tl rf k hS hQ hk2 hl) (q_rank_w0 S (mkX M C T tl rf) K k hS hM hk2 hl) (hR) (Or.inl rfl) (Nat.le_of_ble_eq_true rfl) (Nat.le_of_ble_eq_true rfl) (Nat.le_of_ble_eq_true rfl) (Nat.le_of_ble_eq_true rfl)
    obtain rfl : z2 = 1 := by omega
    simp only [zI_nat]
    rw [show zI 1 = nI 1 from by decide]
    exact pair_mk (p_rank_w1 T S P U O B Q C R tl rf k hS hQ hk2 hl (rank_pre hS hl).1 (rank_pre hS hl).2) (q_rank_w1 S (mkX M C T tl rf) K k hS hM hk2 hl) (hR) (Or.inl rfl) (Nat.le_of_ble_eq_true rfl) (Nat.le_of_ble_eq_true rfl) (Nat.le_of_ble_eq_true rfl) (Nat.le_of_ble_eq_true rfl)
  by_cases h1 : z2 = 0
  · skip
    obtain rfl : z2 = 0 := by omega
    simp only [zI_nat]
    rw [show zI 0 = nI 0 from by decide]
    exact pair_mk (p_rank_none0 T S P U O B Q C R tl rf k hS hQ hk2 (Nat.le_of_not_lt hl)) (q_rank_none0 S (mkX M C T tl rf) K k hS hM hk2 (Nat.le_of_not_lt hl)) (hR) (Or.inl rfl) (Nat.le_of_ble_eq_true rfl) (Nat.le_of_ble_eq_true rfl) (Nat.le_of_ble_eq_true rfl) (Nat.le_of_ble_eq_true rfl)
  obtain rfl : z2 = 1 := by omega
  simp only [zI_nat]
  rw [show zI 1 = nI 1 from by decide]
  exact pair_mk (p_rank_none1 T S P U O B Q C R tl rf k hS hQ hk2 (Nat.le_of_not_lt hl)) (q_rank_none1 S (mkX M C T tl rf) K k hS hM hk2 (Nat.le_of_not_lt hl)) (hR) (Or.inl rfl) (Nat.le_of_ble_eq_true rfl) (Nat.le_of_ble_eq_true rfl) (Nat.le_of_ble_eq_true rfl) (Nat.le_of_ble_eq_true rfl)
