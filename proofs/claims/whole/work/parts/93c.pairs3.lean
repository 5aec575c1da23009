theorem pr_item {l : Launch} {E : XE} {T : TopN} {S P U : SaleN} {O : OutN} {B : BillN} {Q : SeaN} {C : ScrN} {R : PrtN} {tl rf : Nat → Nat} {M : ModN} {K : Option (Nat → Nat)} (z1 : Int) (z2 : Int) (r1 : -2147483648 ≤ z1 ∧ z1 < 2147483648) (r2 : -2147483648 ≤ z2 ∧ z2 < 2147483648) (hR : RelO T S P C.lt C.sz tl K) (hQ : Q.fd < 2147483648) (hM : MOK S (mkX M C T tl rf)) : PairE Value.int l E mX6_item mX7_item [.int (zI z1), .int (zI z2)] T S P U O B Q C R tl rf M K := by
  obtain ⟨hS, hpr, hKP, hsz, hlt, htc, htl⟩ := id hR
  have hca := hS.1
  by_cases h1 : ¬ (0 ≤ z1 ∧ z1 < 6)
  · skip
    exact pair_mk (p_item_1 T S P U O B Q C R tl rf z1 z2 hS hQ ⟨by omega, by omega⟩ ⟨by omega, by omega⟩ (by omega)) (q_item_1 S (mkX M C T tl rf) K z1 z2 hS hM ⟨by omega, by omega⟩ ⟨by omega, by omega⟩ (by omega)) (hR) (Or.inl rfl) (Nat.le_of_ble_eq_true rfl) (Nat.le_of_ble_eq_true rfl) (Nat.le_of_ble_eq_true rfl) (Nat.le_of_ble_eq_true rfl)
  by_cases h2 : z2 < 0 ∨ 3 < z2
  · skip
    obtain ⟨i, rfl⟩ := Int.eq_ofNat_of_zero_le (show 0 ≤ z1 from by omega)
    simp only [zI_nat]
    exact pair_mk (p_item_2 T S P U O B Q C R tl rf i z2 hS hQ ⟨by omega, by omega⟩ (by omega) (by omega)) (q_item_2 S (mkX M C T tl rf) K i z2 hS hM ⟨by omega, by omega⟩ (by omega) (by omega)) (hR) (Or.inl rfl) (Nat.le_of_ble_eq_true rfl) (Nat.le_of_ble_eq_true rfl) (Nat.le_of_ble_eq_true rfl) (Nat.le_of_ble_eq_true rfl)
  by_cases h3 : z2 = 0
  · skip
    obtain ⟨i, rfl⟩ := Int.eq_ofNat_of_zero_le (show 0 ≤ z1 from by omega)
    obtain rfl : z2 = 0 := by omega
    simp only [zI_nat]
    rw [show zI 0 = nI 0 from by decide]
    exact pair_mk (p_item_w0 T S P U O B Q C R tl rf i hS hQ (by omega)) (q_item_w0 S (mkX M C T tl rf) K i hS hM (by omega)) (hR) (Or.inl rfl) (Nat.le_of_ble_eq_true rfl) (Nat.le_of_ble_eq_true rfl) (Nat.le_of_ble_eq_true rfl) (Nat.le_of_ble_eq_true rfl)
  by_cases h4 : z2 = 1
  · skip
    obtain ⟨i, rfl⟩ := Int.eq_ofNat_of_zero_le (show 0 ≤ z1 from by omega)
    obtain rfl : z2 = 1 := by omega
    simp only [zI_nat]
    rw [show zI 1 = nI 1 from by decide]
    exact pair_mk (p_item_w1 T S P U O B Q C R tl rf i hS hQ (by omega)) (q_item_w1 S (mkX M C T tl rf) K i hS hM (by omega)) (hR) (Or.inl rfl) (Nat.le_of_ble_eq_true rfl) (Nat.le_of_ble_eq_true rfl) (Nat.le_of_ble_eq_true rfl) (Nat.le_of_ble_eq_true rfl)
  by_cases h5 : z2 = 2
  · skip
    obtain ⟨i, rfl⟩ := Int.eq_ofNat_of_zero_le (show 0 ≤ z1 from by omega)
    obtain rfl : z2 = 2 := by omega
    simp only [zI_nat]
    rw [show zI 2 = nI 2 from by decide]
    exact pair_mk (p_item_w2 T S P U O B Q C R tl rf i hS hQ (by omega)) (q_item_w2 S (mkX M C T tl rf) K i hS hM (by omega)) (hR) (Or.inl rfl) (Nat.le_of_ble_eq_true rfl) (Nat.le_of_ble_eq_true rfl) (Nat.le_of_ble_eq_true rfl) (Nat.le_of_ble_eq_true rfl)
  obtain ⟨i, rfl⟩ := Int.eq_ofNat_of_zero_le (show 0 ≤ z1 from by omega)
  obtain rfl : z2 = 3 := by omega
  simp only [zI_nat]
  rw [show zI 3 = nI 3 from by decide]
  exact pair_mk (p_item_w3 T S P U O B Q C R tl rf i hS hQ (by omega)) (q_item_w3 S (mkX M C T tl rf) K i hS hM (by omega)) (hR) (Or.inl rfl) (Nat.le_of_ble_eq_true rfl) (Nat.le_of_ble_eq_true rfl) (Nat.le_of_ble_eq_true rfl) (Nat.le_of_ble_eq_true rfl)
theorem pr_rival {l : Launch} {E : XE} {T : TopN} {S P U : SaleN} {O : OutN} {B : BillN} {Q : SeaN} {C : ScrN} {R : PrtN} {tl rf : Nat → Nat} {M : ModN} {K : Option (Nat → Nat)} (z1 : Int) (z2 : Int) (r1 : -2147483648 ≤ z1 ∧ z1 < 2147483648) (r2 : -2147483648 ≤ z2 ∧ z2 < 2147483648) (hR : RelO T S P C.lt C.sz tl K) (hQ : Q.fd < 2147483648) (hM : MOK S (mkX M C T tl rf)) : PairE Value.int l E mX6_rival mX7_rival [.int (zI z1), .int (zI z2)] T S P U O B Q C R tl rf M K := by
  obtain ⟨hS, hpr, hKP, hsz, hlt, htc, htl⟩ := id hR
  have hca := hS.1
  by_cases h1 : ¬ (0 ≤ z1 ∧ z1 < S.ca)
  · skip
    exact pair_mk (p_rival_1 T S P U O B Q C R tl rf z1 z2 hS hQ ⟨by omega, by omega⟩ ⟨by omega, by omega⟩ (by omega)) (q_rival_1 S (mkX M C T tl rf) K z1 z2 hS hM ⟨by omega, by omega⟩ ⟨by omega, by omega⟩ (by omega)) (hR) (Or.inl rfl) (Nat.le_of_ble_eq_true rfl) (Nat.le_of_ble_eq_true rfl) (Nat.le_of_ble_eq_true rfl) (Nat.le_of_ble_eq_true rfl)
  by_cases h2 : z2 < 0 ∨ 2 < z2
  · skip
    obtain ⟨k, rfl⟩ := Int.eq_ofNat_of_zero_le (show 0 ≤ z1 from by omega)
    simp only [zI_nat]
    exact pair_mk (p_rival_2 T S P U O B Q C R tl rf k z2 hS hQ ⟨by omega, by omega⟩ (by omega) (by omega)) (q_rival_2 S (mkX M C T tl rf) K k z2 hS hM ⟨by omega, by omega⟩ (by omega) (by omega)) (hR) (Or.inl rfl) (Nat.le_of_ble_eq_true rfl) (Nat.le_of_ble_eq_true rfl) (Nat.le_of_ble_eq_true rfl) (Nat.le_of_ble_eq_true rfl)
  by_cases h3 : z2 = 0
  · skip
    obtain ⟨k, rfl⟩ := Int.eq_ofNat_of_zero_le (show 0 ≤ z1 from by omega)
    obtain rfl : z2 = 0 := by omega
    simp only [zI_nat]
    rw [show zI 0 = nI 0 from by decide]
    exact pair_mk (p_rival_w0 T S P U O B Q C R tl rf k hS hQ (by omega)) (q_rival_w0 S (mkX M C T tl rf) K k hS hM (by omega)) (hR) (Or.inl rfl) (Nat.le_of_ble_eq_true rfl) (Nat.le_of_ble_eq_true rfl) (Nat.le_of_ble_eq_true rfl) (Nat.le_of_ble_eq_true rfl)
  by_cases h4 : z2 = 1
  · skip
    obtain ⟨k, rfl⟩ := Int.eq_ofNat_of_zero_le (show 0 ≤ z1 from by omega)
    obtain rfl : z2 = 1 := by omega
    simp only [zI_nat]
    rw [show zI 1 = nI 1 from by decide]
    exact pair_mk (p_rival_w1 T S P U O B Q C R tl rf k hS hQ (by omega)) (q_rival_w1 S (mkX M C T tl rf) K k hS hM (by omega)) (hR) (Or.inl rfl) (Nat.le_of_ble_eq_true rfl) (Nat.le_of_ble_eq_true rfl) (Nat.le_of_ble_eq_true rfl) (Nat.le_of_ble_eq_true rfl)
  obtain ⟨k, rfl⟩ := Int.eq_ofNat_of_zero_le (show 0 ≤ z1 from by omega)
  obtain rfl : z2 = 2 := by omega
  simp only [zI_nat]
  rw [show zI 2 = nI 2 from by decide]
  exact pair_mk (p_rival_w2 T S P U O B Q C R tl rf k hS hQ (by omega)) (q_rival_w2 S (mkX M C T tl rf) K k hS hM (by omega)) (hR) (Or.inl rfl) (Nat.le_of_ble_eq_true rfl) (Nat.le_of_ble_eq_true rfl) (Nat.le_of_ble_eq_true rfl) (Nat.le_of_ble_eq_true rfl)
theorem pr_pays {l : Launch} {E : XE} {T : TopN} {S P U : SaleN} {O : OutN} {B : BillN} {Q : SeaN} {C : ScrN} {R : PrtN} {tl rf : Nat → Nat} {M : ModN} {K : Option (Nat → Nat)} (z1 : Int) (z2 : Int) (r1 : -2147483648 ≤ z1 ∧ z1 < 2147483648) (r2 : -2147483648 ≤ z2 ∧ z2 < 2147483648) (hR : RelO T S P C.lt C.sz tl K) (hQ : Q.fd < 2147483648) (hM : MOK S (mkX M C T tl rf)) : PairE Value.int l E mX6_pays mX7_pays [.int (zI z1), .int (zI z2)] T S P U O B Q C R tl rf M K := by
  obtain ⟨hS, hpr, hKP, hsz, hlt, htc, htl⟩ := id hR
  have hca := hS.1
  obtain ⟨n, hn⟩ := lifts_ex hS
  by_cases h1 : ¬ (0 ≤ z1 ∧ z1 < 5)
  · skip
    exact pair_mk (p_pays_1 T S P U O B Q C R tl rf z1 z2 hS hQ ⟨by omega, by omega⟩ ⟨by omega, by omega⟩ (by omega)) (q_pays_1 S (mkX M C T tl rf) K z1 z2 hS hM ⟨by omega, by omega⟩ ⟨by omega, by omega⟩ (by omega)) (hR) (Or.inl rfl) (Nat.le_of_ble_eq_true rfl) (Nat.le_of_ble_eq_true rfl) (Nat.le_of_ble_eq_true rfl) (Nat.le_of_ble_eq_true rfl)
  by_cases h2 : ¬ (0 ≤ z2 ∧ z2 < 3)
  · skip
    obtain ⟨b, rfl⟩ := Int.eq_ofNat_of_zero_le (show 0 ≤ z1 from by omega)
    simp only [zI_nat]
    exact pair_mk (p_pays_2 T S P U O B Q C R tl rf b z2 hS hQ ⟨by omega, by omega⟩ (by omega) (by omega)) (q_pays_2 S (mkX M C T tl rf) K b z2 hS hM ⟨by omega, by omega⟩ (by omega) (by omega)) (hR) (Or.inl rfl) (Nat.le_of_ble_eq_true rfl) (Nat.le_of_ble_eq_true rfl) (Nat.le_of_ble_eq_true rfl) (Nat.le_of_ble_eq_true rfl)
  by_cases h3 : z2 = 0
  · skip
    obtain ⟨b, rfl⟩ := Int.eq_ofNat_of_zero_le (show 0 ≤ z1 from by omega)
    obtain rfl : z2 = 0 := by omega
    simp only [zI_nat]
    rw [show zI 0 = nI 0 from by decide]
    exact pair_mk (p_pays_w0 T S P U O B Q C R tl rf n b hS hQ hn (by omega)) (q_pays_w0 S (mkX M C T tl rf) K n b hS hM hn (by omega)) (hR) (Or.inl rfl) (Nat.le_of_ble_eq_true rfl) (Nat.le_of_ble_eq_true rfl) (Nat.le_of_ble_eq_true rfl) (Nat.le_of_ble_eq_true rfl)
  by_cases h4 : z2 = 1
  · skip
    obtain ⟨b, rfl⟩ := Int.eq_ofNat_of_zero_le (show 0 ≤ z1 from by omega)
    obtain rfl : z2 = 1 := by omega
    simp only [zI_nat]
    rw [show zI 1 = nI 1 from by decide]
    exact pair_mk (p_pays_w1 T S P U O B Q C R tl rf n b hS hQ hn (by omega)) (q_pays_w1 S (mkX M C T tl rf) K n b hS hM hn (by omega)) (hR) (Or.inl rfl) (Nat.le_of_ble_eq_true rfl) (Nat.le_of_ble_eq_true rfl) (Nat.le_of_ble_eq_true rfl) (Nat.le_of_ble_eq_true rfl)
  obtain ⟨b, rfl⟩ := Int.eq_ofNat_of_zero_le (show 0 ≤ z1 from by omega)
  obtain rfl : z2 = 2 := by omega
  simp only [zI_nat]
  rw [show zI 2 = nI 2 from by decide]
  exact pair_mk (p_pays_w2 T S P U O B Q C R tl rf n b hS hQ hn (by omega)) (q_pays_w2 S (mkX M C T tl rf) K n b hS hM hn (by omega)) (hR) (Or.inl rfl) (Nat.le_of_ble_eq_true rfl) (Nat.le_of_ble_eq_true rfl) (Nat.le_of_ble_eq_true rfl) (Nat.le_of_ble_eq_true rfl)
theorem pr_blocks {l : Launch} {E : XE} {T : TopN} {S P U : SaleN} {O : OutN} {B : BillN} {Q : SeaN} {C : ScrN} {R : PrtN} {tl rf : Nat → Nat} {M : ModN} {K : Option (Nat → Nat)} (z1 : Int) (z2 : Int) (r1 : -2147483648 ≤ z1 ∧ z1 < 2147483648) (r2 : -2147483648 ≤ z2 ∧ z2 < 2147483648) (hR : RelO T S P C.lt C.sz tl K) (hQ : Q.fd < 2147483648) (hM : MOK S (mkX M C T tl rf)) : PairE Value.int l E mX6_blocks mX7_blocks [.int (zI z1), .int (zI z2)] T S P U O B Q C R tl rf M K := by
  obtain ⟨hS, hpr, hKP, hsz, hlt, htc, htl⟩ := id hR
  have hca := hS.1
  obtain ⟨n, hn⟩ := lifts_ex hS
  by_cases h1 : ¬ (0 ≤ z1 ∧ z1 < 3)
  · skip
    exact pair_mk (p_blocks_2a T S P U O B Q C R tl rf z1 z2 hS hQ ⟨by omega, by omega⟩ ⟨by omega, by omega⟩ (by omega)) (q_blocks_2a S (mkX M C T tl rf) K z1 z2 hS hM ⟨by omega, by omega⟩ ⟨by omega, by omega⟩ (by omega)) (hR) (Or.inl rfl) (Nat.le_of_ble_eq_true rfl) (Nat.le_of_ble_eq_true rfl) (Nat.le_of_ble_eq_true rfl) (Nat.le_of_ble_eq_true rfl)
  by_cases h2 : ¬ (z2 = 0 ∨ z2 = 1)
  · skip
    exact pair_mk (p_blocks_2b T S P U O B Q C R tl rf z1 z2 hS hQ ⟨by omega, by omega⟩ ⟨by omega, by omega⟩ (by omega) (by omega)) (q_blocks_2b S (mkX M C T tl rf) K z1 z2 hS hM ⟨by omega, by omega⟩ ⟨by omega, by omega⟩ (by omega) (by omega)) (hR) (Or.inl rfl) (Nat.le_of_ble_eq_true rfl) (Nat.le_of_ble_eq_true rfl) (Nat.le_of_ble_eq_true rfl) (Nat.le_of_ble_eq_true rfl)
  by_cases h3 : z1 = 0 ∧ z2 = 0
  · skip
    obtain rfl : z1 = 0 := by omega
    obtain rfl : z2 = 0 := by omega
    rw [show zI 0 = nI 0 from by decide]
    exact pair_mk (p_blocks_w0_0 T S P U O B Q C R tl rf n hS hQ hn) (q_blocks_w0_0 S (mkX M C T tl rf) K n hS hM hn) (hR) (Or.inl rfl) (Nat.le_of_ble_eq_true rfl) (Nat.le_of_ble_eq_true rfl) (Nat.le_of_ble_eq_true rfl) (Nat.le_of_ble_eq_true rfl)
  by_cases h4 : z1 = 1 ∧ z2 = 0
  · skip
    obtain rfl : z1 = 1 := by omega
    obtain rfl : z2 = 0 := by omega
    rw [show zI 0 = nI 0 from by decide]
    rw [show zI 1 = nI 1 from by decide]
    exact pair_mk (p_blocks_w1_0 T S P U O B Q C R tl rf n hS hQ hn) (q_blocks_w1_0 S (mkX M C T tl rf) K n hS hM hn) (hR) (Or.inl rfl) (Nat.le_of_ble_eq_true rfl) (Nat.le_of_ble_eq_true rfl) (Nat.le_of_ble_eq_true rfl) (Nat.le_of_ble_eq_true rfl)
  by_cases h5 : z1 = 2 ∧ z2 = 0
  · skip
    obtain rfl : z1 = 2 := by omega
    obtain rfl : z2 = 0 := by omega
    rw [show zI 0 = nI 0 from by decide]
    rw [show zI 2 = nI 2 from by decide]
    exact pair_mk (p_blocks_w2_0 T S P U O B Q C R tl rf n hS hQ hn) (q_blocks_w2_0 S (mkX M C T tl rf) K n hS hM hn) (hR) (Or.inl rfl) (Nat.le_of_ble_eq_true rfl) (Nat.le_of_ble_eq_true rfl) (Nat.le_of_ble_eq_true rfl) (Nat.le_of_ble_eq_true rfl)
  by_cases h6 : z1 = 0
  · skip
    rcases blk_two (B := LB S) (f := wonZ S) 32 with hb | ⟨g, hg, hb⟩
    · skip
      obtain rfl : z1 = 0 := by omega
      obtain rfl : z2 = 1 := by omega
      rw [show zI 0 = nI 0 from by decide]
      rw [show zI 1 = nI 1 from by decide]
      exact pair_mk (p_blocks_w0_1n T S P U O B Q C R tl rf n hS hQ hn hb) (q_blocks_w0_1n S (mkX M C T tl rf) K n hS hM hn hb) (hR) (Or.inl rfl) (Nat.le_of_ble_eq_true rfl) (Nat.le_of_ble_eq_true rfl) (Nat.le_of_ble_eq_true rfl) (Nat.le_of_ble_eq_true rfl)
    obtain rfl : z1 = 0 := by omega
    obtain rfl : z2 = 1 := by omega
    rw [show zI 0 = nI 0 from by decide]
    rw [show zI 1 = nI 1 from by decide]
    exact pair_mk (p_blocks_w0_1s T S P U O B Q C R tl rf n g hS hQ hn hg hb) (q_blocks_w0_1s S (mkX M C T tl rf) K n g hS hM hn hg hb) (hR) (Or.inl rfl) (Nat.le_of_ble_eq_true rfl) (Nat.le_of_ble_eq_true rfl) (Nat.le_of_ble_eq_true rfl) (Nat.le_of_ble_eq_true rfl)
  by_cases h7 : z1 = 1
  · skip
    rcases blk_two (B := LB S) (f := paidZ S) 32 with hb | ⟨g, hg, hb⟩
    · skip
      obtain rfl : z1 = 1 := by omega
      obtain rfl : z2 = 1 := by omega
      rw [show zI 1 = nI 1 from by decide]
      exact pair_mk (p_blocks_w1_1n T S P U O B Q C R tl rf n hS hQ hn hb) (q_blocks_w1_1n S (mkX M C T tl rf) K n hS hM hn hb) (hR) (Or.inl rfl) (Nat.le_of_ble_eq_true rfl) (Nat.le_of_ble_eq_true rfl) (Nat.le_of_ble_eq_true rfl) (Nat.le_of_ble_eq_true rfl)
    obtain rfl : z1 = 1 := by omega
    obtain rfl : z2 = 1 := by omega
    rw [show zI 1 = nI 1 from by decide]
    exact pair_mk (p_blocks_w1_1s T S P U O B Q C R tl rf n g hS hQ hn hg hb) (q_blocks_w1_1s S (mkX M C T tl rf) K n g hS hM hn hg hb) (hR) (Or.inl rfl) (Nat.le_of_ble_eq_true rfl) (Nat.le_of_ble_eq_true rfl) (Nat.le_of_ble_eq_true rfl) (Nat.le_of_ble_eq_true rfl)
  rcases blk_two (B := LB S) (f := itS S n) 32 with hb | ⟨g, hg, hb⟩
  · skip
    obtain rfl : z1 = 2 := by omega
    obtain rfl : z2 = 1 := by omega
    rw [show zI 1 = nI 1 from by decide]
    rw [show zI 2 = nI 2 from by decide]
    exact pair_mk (p_blocks_w2_1n T S P U O B Q C R tl rf n hS hQ hn hb) (q_blocks_w2_1n S (mkX M C T tl rf) K n hS hM hn hb) (hR) (Or.inl rfl) (Nat.le_of_ble_eq_true rfl) (Nat.le_of_ble_eq_true rfl) (Nat.le_of_ble_eq_true rfl) (Nat.le_of_ble_eq_true rfl)
  obtain rfl : z1 = 2 := by omega
  obtain rfl : z2 = 1 := by omega
  rw [show zI 1 = nI 1 from by decide]
  rw [show zI 2 = nI 2 from by decide]
  exact pair_mk (p_blocks_w2_1s T S P U O B Q C R tl rf n g hS hQ hn hg hb) (q_blocks_w2_1s S (mkX M C T tl rf) K n g hS hM hn hg hb) (hR) (Or.inl rfl) (Nat.le_of_ble_eq_true rfl) (Nat.le_of_ble_eq_true rfl) (Nat.le_of_ble_eq_true rfl) (Nat.le_of_ble_eq_true rfl)
theorem pr_lifts {l : Launch} {E : XE} {T : TopN} {S P U : SaleN} {O : OutN} {B : BillN} {Q : SeaN} {C : ScrN} {R : PrtN} {tl rf : Nat → Nat} {M : ModN} {K : Option (Nat → Nat)}   (hR : RelO T S P C.lt C.sz tl K) (hQ : Q.fd < 2147483648) (hM : MOK S (mkX M C T tl rf)) : PairE Value.int l E mX6_lifts mX7_lifts [] T S P U O B Q C R tl rf M K := by
  obtain ⟨hS, hpr, hKP, hsz, hlt, htc, htl⟩ := id hR
  have hca := hS.1
  obtain ⟨n, hn⟩ := lifts_ex hS
  exact pair_mk (p_lifts_ok T S P U O B Q C R tl rf n hS hQ hn) (q_lifts_ok S (mkX M C T tl rf) K n hS hM hn) (hR) (Or.inl rfl) (Nat.le_of_ble_eq_true rfl) (Nat.le_of_ble_eq_true rfl) (Nat.le_of_ble_eq_true rfl) (Nat.le_of_ble_eq_true rfl)
theorem pr_group {l : Launch} {E : XE} {T : TopN} {S P U : SaleN} {O : OutN} {B : BillN} {Q : SeaN} {C : ScrN} {R : PrtN} {tl rf : Nat → Nat} {M : ModN} {K : Option (Nat → Nat)} (z1 : Int) (z2 : Int) (r1 : -2147483648 ≤ z1 ∧ z1 < 2147483648) (r2 : -2147483648 ≤ z2 ∧ z2 < 2147483648) (hR : RelO T S P C.lt C.sz tl K) (hQ : Q.fd < 2147483648) (hM : MOK S (mkX M C T tl rf)) : PairE Value.int l E mX6_group mX7_group [.int (zI z1), .int (zI z2)] T S P U O B Q C R tl rf M K := by
  obtain ⟨hS, hpr, hKP, hsz, hlt, htc, htl⟩ := id hR
  have hca := hS.1
  by_cases h1 : z1 < 0
  · skip
    exact pair_mk (p_group_4 T S P U O B Q C R tl rf z1 z2 hS hQ ⟨by omega, by omega⟩ ⟨by omega, by omega⟩ (by omega)) (q_group_4 S (mkX M C T tl rf) K z1 z2 hS hM ⟨by omega, by omega⟩ ⟨by omega, by omega⟩ (by omega)) (hR) (Or.inl rfl) (Nat.le_of_ble_eq_true rfl) (Nat.le_of_ble_eq_true rfl) (Nat.le_of_ble_eq_true rfl) (Nat.le_of_ble_eq_true rfl)
  by_cases h2 : 32 ≤ z1
  · skip
    exact pair_mk (p_group_6 T S P U O B Q C R tl rf z1 z2 hS hQ ⟨by omega, by omega⟩ ⟨by omega, by omega⟩ (by omega)) (q_group_6 S (mkX M C T tl rf) K z1 z2 hS hM ⟨by omega, by omega⟩ ⟨by omega, by omega⟩ (by omega)) (hR) (Or.inl rfl) (Nat.le_of_ble_eq_true rfl) (Nat.le_of_ble_eq_true rfl) (Nat.le_of_ble_eq_true rfl) (Nat.le_of_ble_eq_true rfl)
  by_cases h3 : z2 < 0 ∨ 4 < z2
  · skip
    obtain ⟨g, rfl⟩ := Int.eq_ofNat_of_zero_le (show 0 ≤ z1 from by omega)
    simp only [zI_nat]
    exact pair_mk (p_group_2 T S P U O B Q C R tl rf g z2 hS hQ ⟨by omega, by omega⟩ (by omega) (by omega)) (q_group_2 S (mkX M C T tl rf) K g z2 hS hM ⟨by omega, by omega⟩ (by omega) (by omega)) (hR) (Or.inl rfl) (Nat.le_of_ble_eq_true rfl) (Nat.le_of_ble_eq_true rfl) (Nat.le_of_ble_eq_true rfl) (Nat.le_of_ble_eq_true rfl)
  by_cases h4 : z2 = 0
  · skip
    obtain ⟨g, rfl⟩ := Int.eq_ofNat_of_zero_le (show 0 ≤ z1 from by omega)
    obtain rfl : z2 = 0 := by omega
    simp only [zI_nat]
    rw [show zI 0 = nI 0 from by decide]
    exact pair_mk (p_group_w0 T S P U O B Q C R tl rf g hS hQ (by omega)) (q_group_w0 S (mkX M C T tl rf) K g hS hM (by omega)) (hR) (Or.inl rfl) (Nat.le_of_ble_eq_true rfl) (Nat.le_of_ble_eq_true rfl) (Nat.le_of_ble_eq_true rfl) (Nat.le_of_ble_eq_true rfl)
  by_cases h5 : z2 = 1
  · skip
    obtain ⟨g, rfl⟩ := Int.eq_ofNat_of_zero_le (show 0 ≤ z1 from by omega)
    obtain rfl : z2 = 1 := by omega
    simp only [zI_nat]
    rw [show zI 1 = nI 1 from by decide]
    exact pair_mk (p_group_w1 T S P U O B Q C R tl rf g hS hQ (by omega)) (q_group_w1 S (mkX M C T tl rf) K g hS hM (by omega)) (hR) (Or.inl rfl) (Nat.le_of_ble_eq_true rfl) (Nat.le_of_ble_eq_true rfl) (Nat.le_of_ble_eq_true rfl) (Nat.le_of_ble_eq_true rfl)
  by_cases h6 : z2 = 2
  · skip
    obtain ⟨g, rfl⟩ := Int.eq_ofNat_of_zero_le (show 0 ≤ z1 from by omega)
    obtain rfl : z2 = 2 := by omega
    simp only [zI_nat]
    rw [show zI 2 = nI 2 from by decide]
    exact pair_mk (p_group_w2 T S P U O B Q C R tl rf g hS hQ (by omega)) (q_group_w2 S (mkX M C T tl rf) K g hS hM (by omega)) (hR) (Or.inl rfl) (Nat.le_of_ble_eq_true rfl) (Nat.le_of_ble_eq_true rfl) (Nat.le_of_ble_eq_true rfl) (Nat.le_of_ble_eq_true rfl)
  by_cases h7 : z2 = 3
  · skip
    obtain ⟨g, rfl⟩ := Int.eq_ofNat_of_zero_le (show 0 ≤ z1 from by omega)
    obtain rfl : z2 = 3 := by omega
    simp only [zI_nat]
    rw [show zI 3 = nI 3 from by decide]
    exact pair_mk (p_group_w3 T S P U O B Q C R tl rf g hS hQ (by omega)) (q_group_w3 S (mkX M C T tl rf) K g hS hM (by omega)) (hR) (Or.inl rfl) (Nat.le_of_ble_eq_true rfl) (Nat.le_of_ble_eq_true rfl) (Nat.le_of_ble_eq_true rfl) (Nat.le_of_ble_eq_true rfl)
  obtain ⟨g, rfl⟩ := Int.eq_ofNat_of_zero_le (show 0 ≤ z1 from by omega)
  obtain rfl : z2 = 4 := by omega
  simp only [zI_nat]
  rw [show zI 4 = nI 4 from by decide]
  exact pair_mk (p_group_w4 T S P U O B Q C R tl rf g hS hQ (by omega)) (q_group_w4 S (mkX M C T tl rf) K g hS hM (by omega)) (hR) (Or.inl rfl) (Nat.le_of_ble_eq_true rfl) (Nat.le_of_ble_eq_true rfl) (Nat.le_of_ble_eq_true rfl) (Nat.le_of_ble_eq_true rfl)
theorem pr_envy {l : Launch} {E : XE} {T : TopN} {S P U : SaleN} {O : OutN} {B : BillN} {Q : SeaN} {C : ScrN} {R : PrtN} {tl rf : Nat → Nat} {M : ModN} {K : Option (Nat → Nat)} (z1 : Int) (z2 : Int) (r1 : -2147483648 ≤ z1 ∧ z1 < 2147483648) (r2 : -2147483648 ≤ z2 ∧ z2 < 2147483648) (hR : RelO T S P C.lt C.sz tl K) (hQ : Q.fd < 2147483648) (hM : MOK S (mkX M C T tl rf)) : PairE Value.int l E mX6_envy mX7_envy [.int (zI z1), .int (zI z2)] T S P U O B Q C R tl rf M K := by
  obtain ⟨hS, hpr, hKP, hsz, hlt, htc, htl⟩ := id hR
  have hca := hS.1
  by_cases h1 : ¬ (0 ≤ z1 ∧ z1 < 5)
  · skip
    exact pair_mk (p_envy_1a T S P U O B Q C R tl rf z1 z2 hS hQ ⟨by omega, by omega⟩ ⟨by omega, by omega⟩ (by omega)) (q_envy_1a S (mkX M C T tl rf) K z1 z2 hS hM ⟨by omega, by omega⟩ ⟨by omega, by omega⟩ (by omega)) (hR) (Or.inl rfl) (Nat.le_of_ble_eq_true rfl) (Nat.le_of_ble_eq_true rfl) (Nat.le_of_ble_eq_true rfl) (Nat.le_of_ble_eq_true rfl)
  by_cases h2 : ¬ (0 ≤ z2 ∧ z2 < 5)
  · skip
    exact pair_mk (p_envy_1b T S P U O B Q C R tl rf z1 z2 hS hQ ⟨by omega, by omega⟩ ⟨by omega, by omega⟩ (by omega) (by omega)) (q_envy_1b S (mkX M C T tl rf) K z1 z2 hS hM ⟨by omega, by omega⟩ ⟨by omega, by omega⟩ (by omega) (by omega)) (hR) (Or.inl rfl) (Nat.le_of_ble_eq_true rfl) (Nat.le_of_ble_eq_true rfl) (Nat.le_of_ble_eq_true rfl) (Nat.le_of_ble_eq_true rfl)
  by_cases h3 : z1 = z2
  · skip
    obtain ⟨b, rfl⟩ := Int.eq_ofNat_of_zero_le (show 0 ≤ z1 from by omega)
    obtain rfl : z2 = ((b : Nat) : Int) := by omega
    simp only [zI_nat]
    exact pair_mk (p_envy_1c T S P U O B Q C R tl rf b hS hQ (by omega)) (q_envy_1c S (mkX M C T tl rf) K b hS hM (by omega)) (hR) (Or.inl rfl) (Nat.le_of_ble_eq_true rfl) (Nat.le_of_ble_eq_true rfl) (Nat.le_of_ble_eq_true rfl) (Nat.le_of_ble_eq_true rfl)
  obtain ⟨b, rfl⟩ := Int.eq_ofNat_of_zero_le (show 0 ≤ z1 from by omega)
  obtain ⟨c, rfl⟩ := Int.eq_ofNat_of_zero_le (show 0 ≤ z2 from by omega)
  simp only [zI_nat]
  exact pair_mk (p_envy_ok T S P U O B Q C R tl rf b c hS hQ (by omega) (by omega) (by omega)) (q_envy_ok S (mkX M C T tl rf) K b c hS hM (by omega) (by omega) (by omega)) (hR) (Or.inl rfl) (Nat.le_of_ble_eq_true rfl) (Nat.le_of_ble_eq_true rfl) (Nat.le_of_ble_eq_true rfl) (Nat.le_of_ble_eq_true rfl)
theorem pr_gain {l : Launch} {E : XE} {T : TopN} {S P U : SaleN} {O : OutN} {B : BillN} {Q : SeaN} {C : ScrN} {R : PrtN} {tl rf : Nat → Nat} {M : ModN} {K : Option (Nat → Nat)} (z1 : Int) (r1 : -2147483648 ≤ z1 ∧ z1 < 2147483648) (hR : RelO T S P C.lt C.sz tl K) (hQ : Q.fd < 2147483648) (hM : MOK S (mkX M C T tl rf)) : PairE Value.int l E mX6_gain mX7_gain [.int (zI z1)] T S P U O B Q C R tl rf M K := by
  obtain ⟨hS, hpr, hKP, hsz, hlt, htc, htl⟩ := id hR
  have hca := hS.1
  by_cases h1 : ¬ (0 ≤ z1 ∧ z1 < 5)
  · skip
    exact pair_mk (p_gain_1 T S P U O B Q C R tl rf z1 hS hQ ⟨by omega, by omega⟩ (by omega)) (q_gain_1 S (mkX M C T tl rf) K z1 hS hM ⟨by omega, by omega⟩ (by omega)) (hR) (Or.inl rfl) (Nat.le_of_ble_eq_true rfl) (Nat.le_of_ble_eq_true rfl) (Nat.le_of_ble_eq_true rfl) (Nat.le_of_ble_eq_true rfl)
  obtain ⟨b, rfl⟩ := Int.eq_ofNat_of_zero_le (show 0 ≤ z1 from by omega)
  simp only [zI_nat]
  exact pair_mk (p_gain_ok T S P U O B Q C R tl rf b hS hQ (by omega)) (q_gain_ok S (mkX M C T tl rf) K b hS hM (by omega)) (hR) (Or.inl rfl) (Nat.le_of_ble_eq_true rfl) (Nat.le_of_ble_eq_true rfl) (Nat.le_of_ble_eq_true rfl) (Nat.le_of_ble_eq_true rfl)
theorem pr_without {l : Launch} {E : XE} {T : TopN} {S P U : SaleN} {O : OutN} {B : BillN} {Q : SeaN} {C : ScrN} {R : PrtN} {tl rf : Nat → Nat} {M : ModN} {K : Option (Nat → Nat)} (z1 : Int) (r1 : -2147483648 ≤ z1 ∧ z1 < 2147483648) (hR : RelO T S P C.lt C.sz tl K) (hQ : Q.fd < 2147483648) (hM : MOK S (mkX M C T tl rf)) : PairE Value.int l E mX6_without mX7_without [.int (zI z1)] T S P U O B Q C R tl rf M K := by
  obtain ⟨hS, hpr, hKP, hsz, hlt, htc, htl⟩ := id hR
  have hca := hS.1
  by_cases h1 : ¬ (0 ≤ z1 ∧ z1 < S.ca)
  · skip
    exact pair_mk (p_without_1 T S P U O B Q C R tl rf z1 hS hQ ⟨by omega, by omega⟩ (by omega)) (q_without_1 S (mkX M C T tl rf) K z1 hS hM ⟨by omega, by omega⟩ (by omega)) (hR) (Or.inl rfl) (Nat.le_of_ble_eq_true rfl) (Nat.le_of_ble_eq_true rfl) (Nat.le_of_ble_eq_true rfl) (Nat.le_of_ble_eq_true rfl)
  obtain ⟨k, rfl⟩ := Int.eq_ofNat_of_zero_le (show 0 ≤ z1 from by omega)
  simp only [zI_nat]
  exact pair_mk (p_without_ok T S P U O B Q C R tl rf k hS hQ (by omega)) (q_without_ok S (mkX M C T tl rf) K k hS hM (by omega)) (hR) (Or.inl rfl) (Nat.le_of_ble_eq_true rfl) (Nat.le_of_ble_eq_true rfl) (Nat.le_of_ble_eq_true rfl) (Nat.le_of_ble_eq_true rfl)
theorem pr_least {l : Launch} {E : XE} {T : TopN} {S P U : SaleN} {O : OutN} {B : BillN} {Q : SeaN} {C : ScrN} {R : PrtN} {tl rf : Nat → Nat} {M : ModN} {K : Option (Nat → Nat)} (z1 : Int) (r1 : -2147483648 ≤ z1 ∧ z1 < 2147483648) (hR : RelO T S P C.lt C.sz tl K) (hQ : Q.fd < 2147483648) (hM : MOK S (mkX M C T tl rf)) : PairE Value.int l E mX6_least mX7_least [.int (zI z1)] T S P U O B Q C R tl rf M K := by
  obtain ⟨hS, hpr, hKP, hsz, hlt, htc, htl⟩ := id hR
  have hca := hS.1
  by_cases h1 : ¬ (0 ≤ z1 ∧ z1 < S.ca)
  · skip
    exact pair_mk (p_least_1 T S P U O B Q C R tl rf z1 hS hQ ⟨by omega, by omega⟩ (by omega)) (q_least_1 S (mkX M C T tl rf) K z1 hS hM ⟨by omega, by omega⟩ (by omega)) (hR) (Or.inl rfl) (Nat.le_of_ble_eq_true rfl) (Nat.le_of_ble_eq_true rfl) (Nat.le_of_ble_eq_true rfl) (Nat.le_of_ble_eq_true rfl)
  obtain ⟨b, rfl⟩ := Int.eq_ofNat_of_zero_le (show 0 ≤ z1 from by omega)
  simp only [zI_nat]
  exact pair_mk (p_least_ok T S P U O B Q C R tl rf b hS hQ (by omega)) (q_least_ok S (mkX M C T tl rf) K b hS hM (by omega)) (hR) (Or.inl rfl) (Nat.le_of_ble_eq_true rfl) (Nat.le_of_ble_eq_true rfl) (Nat.le_of_ble_eq_true rfl) (Nat.le_of_ble_eq_true rfl)
theorem pr_tight {l : Launch} {E : XE} {T : TopN} {S P U : SaleN} {O : OutN} {B : BillN} {Q : SeaN} {C : ScrN} {R : PrtN} {tl rf : Nat → Nat} {M : ModN} {K : Option (Nat → Nat)}   (hR : RelO T S P C.lt C.sz tl K) (hQ : Q.fd < 2147483648) (hM : MOK S (mkX M C T tl rf)) : PairE Value.int l E mX6_tight mX7_tight [] T S P U O B Q C R tl rf M K := by
  obtain ⟨hS, hpr, hKP, hsz, hlt, htc, htl⟩ := id hR
  have hca := hS.1
  exact pair_mk (p_tight_ok T S P U O B Q C R tl rf hS hQ hpr) (q_tight_ok S (mkX M C T tl rf) K hS hM hpr) (hR) (Or.inl rfl) (Nat.le_of_ble_eq_true rfl) (Nat.le_of_ble_eq_true rfl) (Nat.le_of_ble_eq_true rfl) (Nat.le_of_ble_eq_true rfl)
theorem pr_missing {l : Launch} {E : XE} {T : TopN} {S P U : SaleN} {O : OutN} {B : BillN} {Q : SeaN} {C : ScrN} {R : PrtN} {tl rf : Nat → Nat} {M : ModN} {K : Option (Nat → Nat)} (z1 : Int) (z2 : Int) (z3 : Int) (r1 : -2147483648 ≤ z1 ∧ z1 < 2147483648) (r2 : -2147483648 ≤ z2 ∧ z2 < 2147483648) (r3 : -2147483648 ≤ z3 ∧ z3 < 2147483648) (hR : RelO T S P C.lt C.sz tl K) (hQ : Q.fd < 2147483648) (hM : MOK S (mkX M C T tl rf)) : PairE Value.long l E mX6_missing mX7_missing [.int (zI z1), .int (zI z2), .int (zI z3)] T S P U O B Q C R tl rf M K := by
  obtain ⟨hS, hpr, hKP, hsz, hlt, htc, htl⟩ := id hR
  have hca := hS.1
  by_cases h1 : ¬ (0 ≤ z1 ∧ z1 < S.ca)
  · skip
    exact pair_mk (p_missing_1 T S P U O B Q C R tl rf z1 z2 z3 hS hQ ⟨by omega, by omega⟩ ⟨by omega, by omega⟩ ⟨by omega, by omega⟩ (by omega)) (q_missing_1 S (mkX M C T tl rf) K z1 z2 z3 hS hM ⟨by omega, by omega⟩ ⟨by omega, by omega⟩ ⟨by omega, by omega⟩ (by omega)) (hR) (Or.inl rfl) (Nat.le_of_ble_eq_true rfl) (Nat.le_of_ble_eq_true rfl) (Nat.le_of_ble_eq_true rfl) (Nat.le_of_ble_eq_true rfl)
  by_cases h2 : z2 < 2
  · skip
    exact pair_mk (p_missing_4 T S P U O B Q C R tl rf z1 z2 z3 hS hQ ⟨by omega, by omega⟩ ⟨by omega, by omega⟩ ⟨by omega, by omega⟩ (by omega) (by omega)) (q_missing_4 S (mkX M C T tl rf) K z1 z2 z3 hS hM ⟨by omega, by omega⟩ ⟨by omega, by omega⟩ ⟨by omega, by omega⟩ (by omega) (by omega)) (hR) (Or.inl rfl) (Nat.le_of_ble_eq_true rfl) (Nat.le_of_ble_eq_true rfl) (Nat.le_of_ble_eq_true rfl) (Nat.le_of_ble_eq_true rfl)
  by_cases h3 : 20 < z2
  · skip
    exact pair_mk (p_missing_6 T S P U O B Q C R tl rf z1 z2 z3 hS hQ ⟨by omega, by omega⟩ ⟨by omega, by omega⟩ ⟨by omega, by omega⟩ (by omega) (by omega)) (q_missing_6 S (mkX M C T tl rf) K z1 z2 z3 hS hM ⟨by omega, by omega⟩ ⟨by omega, by omega⟩ ⟨by omega, by omega⟩ (by omega) (by omega)) (hR) (Or.inl rfl) (Nat.le_of_ble_eq_true rfl) (Nat.le_of_ble_eq_true rfl) (Nat.le_of_ble_eq_true rfl) (Nat.le_of_ble_eq_true rfl)
  by_cases h4 : ¬ (z3 = 0 ∨ z3 = 1)
  · skip
    exact pair_mk (p_missing_2 T S P U O B Q C R tl rf z1 z2 z3 hS hQ ⟨by omega, by omega⟩ ⟨by omega, by omega⟩ ⟨by omega, by omega⟩ (by omega) (by omega) (by omega)) (q_missing_2 S (mkX M C T tl rf) K z1 z2 z3 hS hM ⟨by omega, by omega⟩ ⟨by omega, by omega⟩ ⟨by omega, by omega⟩ (by omega) (by omega) (by omega)) (hR) (Or.inl rfl) (Nat.le_of_ble_eq_true rfl) (Nat.le_of_ble_eq_true rfl) (Nat.le_of_ble_eq_true rfl) (Nat.le_of_ble_eq_true rfl)
  by_cases h5 : z3 = 0
  · skip
    obtain ⟨b, rfl⟩ := Int.eq_ofNat_of_zero_le (show 0 ≤ z1 from by omega)
    obtain ⟨t, rfl⟩ := Int.eq_ofNat_of_zero_le (show 0 ≤ z2 from by omega)
    obtain rfl : z3 = 0 := by omega
    simp only [zI_nat]
    rw [show zI 0 = nI 0 from by decide]
    exact pair_mk (p_missing_w0 T S P U O B Q C R tl rf b t hS hQ (by omega) (by omega)) (q_missing_w0 S (mkX M C T tl rf) K b t hS hM (by omega) (by omega)) (hR) (Or.inl rfl) (Nat.le_of_ble_eq_true rfl) (Nat.le_of_ble_eq_true rfl) (Nat.le_of_ble_eq_true rfl) (Nat.le_of_ble_eq_true rfl)
  obtain ⟨b, rfl⟩ := Int.eq_ofNat_of_zero_le (show 0 ≤ z1 from by omega)
  obtain ⟨t, rfl⟩ := Int.eq_ofNat_of_zero_le (show 0 ≤ z2 from by omega)
  obtain rfl : z3 = 1 := by omega
  simp only [zI_nat]
  rw [show zI 1 = nI 1 from by decide]
  exact pair_mk (p_missing_w1 T S P U O B Q C R tl rf b t hS hQ (by omega) (by omega)) (q_missing_w1 S (mkX M C T tl rf) K b t hS hM (by omega) (by omega)) (hR) (Or.inl rfl) (Nat.le_of_ble_eq_true rfl) (Nat.le_of_ble_eq_true rfl) (Nat.le_of_ble_eq_true rfl) (Nat.le_of_ble_eq_true rfl)
theorem pr_mean {l : Launch} {E : XE} {T : TopN} {S P U : SaleN} {O : OutN} {B : BillN} {Q : SeaN} {C : ScrN} {R : PrtN} {tl rf : Nat → Nat} {M : ModN} {K : Option (Nat → Nat)} (z1 : Int) (z2 : Int) (r1 : -2147483648 ≤ z1 ∧ z1 < 2147483648) (r2 : -2147483648 ≤ z2 ∧ z2 < 2147483648) (hR : RelO T S P C.lt C.sz tl K) (hQ : Q.fd < 2147483648) (hM : MOK S (mkX M C T tl rf)) : PairE Value.long l E mX6_mean mX7_mean [.int (zI z1), .int (zI z2)] T S P U O B Q C R tl rf M K := by
  obtain ⟨hS, hpr, hKP, hsz, hlt, htc, htl⟩ := id hR
  have hca := hS.1
  obtain ⟨n, hn⟩ := lifts_ex hS
  by_cases h1 : ¬ (0 ≤ z1 ∧ z1 < 3)
  · skip
    exact pair_mk (p_mean_2a T S P U O B Q C R tl rf z1 z2 hS hQ ⟨by omega, by omega⟩ ⟨by omega, by omega⟩ (by omega)) (q_mean_2a S (mkX M C T tl rf) K z1 z2 hS hM ⟨by omega, by omega⟩ ⟨by omega, by omega⟩ (by omega)) (hR) (Or.inl rfl) (Nat.le_of_ble_eq_true rfl) (Nat.le_of_ble_eq_true rfl) (Nat.le_of_ble_eq_true rfl) (Nat.le_of_ble_eq_true rfl)
  by_cases h2 : ¬ (z2 = 0 ∨ z2 = 1)
  · skip
    exact pair_mk (p_mean_2b T S P U O B Q C R tl rf z1 z2 hS hQ ⟨by omega, by omega⟩ ⟨by omega, by omega⟩ (by omega) (by omega)) (q_mean_2b S (mkX M C T tl rf) K z1 z2 hS hM ⟨by omega, by omega⟩ ⟨by omega, by omega⟩ (by omega) (by omega)) (hR) (Or.inl rfl) (Nat.le_of_ble_eq_true rfl) (Nat.le_of_ble_eq_true rfl) (Nat.le_of_ble_eq_true rfl) (Nat.le_of_ble_eq_true rfl)
  by_cases h3 : z1 = 0 ∧ z2 = 0
  · skip
    obtain rfl : z1 = 0 := by omega
    obtain rfl : z2 = 0 := by omega
    rw [show zI 0 = nI 0 from by decide]
    exact pair_mk (p_mean_w0_0 T S P U O B Q C R tl rf n hS hQ hn (mean_0 hS).1 (mean_0 hS).2) (q_mean_w0_0 S (mkX M C T tl rf) K n hS hM hn (mean_0 hS).1 (mean_0 hS).2) (hR) (Or.inl rfl) (Nat.le_of_ble_eq_true rfl) (Nat.le_of_ble_eq_true rfl) (Nat.le_of_ble_eq_true rfl) (Nat.le_of_ble_eq_true rfl)
  by_cases h4 : z1 = 0 ∧ z2 = 1
  · skip
    obtain rfl : z1 = 0 := by omega
    obtain rfl : z2 = 1 := by omega
    rw [show zI 0 = nI 0 from by decide]
    rw [show zI 1 = nI 1 from by decide]
    exact pair_mk (p_mean_w0_1 T S P U O B Q C R tl rf n hS hQ hn (mean_0 hS).1 (mean_0 hS).2) (q_mean_w0_1 S (mkX M C T tl rf) K n hS hM hn (mean_0 hS).1 (mean_0 hS).2) (hR) (Or.inl rfl) (Nat.le_of_ble_eq_true rfl) (Nat.le_of_ble_eq_true rfl) (Nat.le_of_ble_eq_true rfl) (Nat.le_of_ble_eq_true rfl)
  by_cases h5 : z1 = 1 ∧ z2 = 0
  · skip
    obtain rfl : z1 = 1 := by omega
    obtain rfl : z2 = 0 := by omega
    rw [show zI 0 = nI 0 from by decide]
    rw [show zI 1 = nI 1 from by decide]
    exact pair_mk (p_mean_w1_0 T S P U O B Q C R tl rf n hS hQ hn (mean_1 hS).1 (mean_1 hS).2) (q_mean_w1_0 S (mkX M C T tl rf) K n hS hM hn (mean_1 hS).1 (mean_1 hS).2) (hR) (Or.inl rfl) (Nat.le_of_ble_eq_true rfl) (Nat.le_of_ble_eq_true rfl) (Nat.le_of_ble_eq_true rfl) (Nat.le_of_ble_eq_true rfl)
  by_cases h6 : z1 = 1 ∧ z2 = 1
  · skip
    obtain rfl : z1 = 1 := by omega
    obtain rfl : z2 = 1 := by omega
    rw [show zI 1 = nI 1 from by decide]
    exact pair_mk (p_mean_w1_1 T S P U O B Q C R tl rf n hS hQ hn (mean_1 hS).1 (mean_1 hS).2) (q_mean_w1_1 S (mkX M C T tl rf) K n hS hM hn (mean_1 hS).1 (mean_1 hS).2) (hR) (Or.inl rfl) (Nat.le_of_ble_eq_true rfl) (Nat.le_of_ble_eq_true rfl) (Nat.le_of_ble_eq_true rfl) (Nat.le_of_ble_eq_true rfl)
  by_cases h7 : z1 = 2 ∧ z2 = 0
  · skip
    obtain rfl : z1 = 2 := by omega
    obtain rfl : z2 = 0 := by omega
    rw [show zI 0 = nI 0 from by decide]
    rw [show zI 2 = nI 2 from by decide]
    exact pair_mk (p_mean_w2_0 T S P U O B Q C R tl rf n hS hQ hn (mean_2 hS hn).1 (mean_2 hS hn).2) (q_mean_w2_0 S (mkX M C T tl rf) K n hS hM hn (mean_2 hS hn).1 (mean_2 hS hn).2) (hR) (Or.inl rfl) (Nat.le_of_ble_eq_true rfl) (Nat.le_of_ble_eq_true rfl) (Nat.le_of_ble_eq_true rfl) (Nat.le_of_ble_eq_true rfl)
  obtain rfl : z1 = 2 := by omega
  obtain rfl : z2 = 1 := by omega
  rw [show zI 1 = nI 1 from by decide]
  rw [show zI 2 = nI 2 from by decide]
  exact pair_mk (p_mean_w2_1 T S P U O B Q C R tl rf n hS hQ hn (mean_2 hS hn).1 (mean_2 hS hn).2) (q_mean_w2_1 S (mkX M C T tl rf) K n hS hM hn (mean_2 hS hn).1 (mean_2 hS hn).2) (hR) (Or.inl rfl) (Nat.le_of_ble_eq_true rfl) (Nat.le_of_ble_eq_true rfl) (Nat.le_of_ble_eq_true rfl) (Nat.le_of_ble_eq_true rfl)
theorem pr_printed {l : Launch} {E : XE} {T : TopN} {S P U : SaleN} {O : OutN} {B : BillN} {Q : SeaN} {C : ScrN} {R : PrtN} {tl rf : Nat → Nat} {M : ModN} {K : Option (Nat → Nat)} (z1 : Int) (r1 : -2147483648 ≤ z1 ∧ z1 < 2147483648) (hR : RelO T S P C.lt C.sz tl K) (hQ : Q.fd < 2147483648) (hM : MOK S (mkX M C T tl rf)) : PairE Value.int l E mX6_printed mX7_printed [.int (zI z1)] T S P U O B Q C R tl rf M K := by
  obtain ⟨hS, hpr, hKP, hsz, hlt, htc, htl⟩ := id hR
  have hca := hS.1
  by_cases h1 : z1 < -1
  · skip
    exact pair_mk (p_printed_4 T S P U O B Q C R tl rf z1 hS hQ ⟨by omega, by omega⟩ (by omega)) (q_printed_4 S (mkX M C T tl rf) K z1 hS hM ⟨by omega, by omega⟩ (by omega)) (hR) (Or.inl rfl) (Nat.le_of_ble_eq_true rfl) (Nat.le_of_ble_eq_true rfl) (Nat.le_of_ble_eq_true rfl) (Nat.le_of_ble_eq_true rfl)
  by_cases h2 : z1 = -1
  · skip
    obtain rfl : z1 = -1 := by omega
    cases K with
    | none => exact pair_mk (p_printed_len T S P U O B Q C R tl rf hS hQ) (q_printed_len_n S (mkX M C T tl rf) hS hM) (hR) (Or.inl rfl) (Nat.le_of_ble_eq_true rfl) (Nat.le_of_ble_eq_true rfl) (Nat.le_of_ble_eq_true rfl) (Nat.le_of_ble_eq_true rfl)
    | some kf => exact pair_mk (p_printed_len T S P U O B Q C R tl rf hS hQ) (q_printed_len_s S (mkX M C T tl rf) kf hS hM) (hR) (Or.inl rfl) (Nat.le_of_ble_eq_true rfl) (Nat.le_of_ble_eq_true rfl) (Nat.le_of_ble_eq_true rfl) (Nat.le_of_ble_eq_true rfl)
  obtain ⟨i, rfl⟩ := Int.eq_ofNat_of_zero_le (show 0 ≤ z1 from by omega)
  simp only [zI_nat]
  cases K with
  | none => exact pair_mk (p_printed_at T S P U O B Q C R tl rf i hS hQ (by omega)) (q_printed_at_n S (mkX M C T tl rf) i hS hM (by omega)) (hR) (Or.inl rfl) (Nat.le_of_ble_eq_true rfl) (Nat.le_of_ble_eq_true rfl) (Nat.le_of_ble_eq_true rfl) (Nat.le_of_ble_eq_true rfl)
  | some kf => exact pair_mk (p_printed_at T S P U O B Q C R tl rf i hS hQ (by omega)) (q_printed_at_s S (mkX M C T tl rf) kf i hS hM (by omega)) (hR) (Or.inl rfl) (Nat.le_of_ble_eq_true rfl) (Nat.le_of_ble_eq_true rfl) (Nat.le_of_ble_eq_true rfl) (Nat.le_of_ble_eq_true rfl)
theorem pr_whatIs {l : Launch} {E : XE} {T : TopN} {S P U : SaleN} {O : OutN} {B : BillN} {Q : SeaN} {C : ScrN} {R : PrtN} {tl rf : Nat → Nat} {M : ModN} {K : Option (Nat → Nat)} (z1 : Int) (z2 : Int) (r1 : -2147483648 ≤ z1 ∧ z1 < 2147483648) (r2 : -2147483648 ≤ z2 ∧ z2 < 2147483648) (hR : RelO T S P C.lt C.sz tl K) (hQ : Q.fd < 2147483648) (hM : MOK S (mkX M C T tl rf)) : PairE Value.int l E mX6_whatIs mX7_whatIs [.int (zI z1), .int (zI z2)] T S P U O B Q C R tl rf M K := by
  obtain ⟨hS, hpr, hKP, hsz, hlt, htc, htl⟩ := id hR
  have hca := hS.1
  by_cases h1 : ¬ (0 ≤ z1 ∧ z1 < 5)
  · skip
    exact pair_mk (p_whatIs_1 T S P U O B Q C R tl rf z1 z2 hS hQ ⟨by omega, by omega⟩ ⟨by omega, by omega⟩ (by omega)) (q_whatIs_1 S (mkX M C T tl rf) K z1 z2 hS hM ⟨by omega, by omega⟩ ⟨by omega, by omega⟩ (by omega)) (hR) (Or.inl rfl) (Nat.le_of_ble_eq_true rfl) (Nat.le_of_ble_eq_true rfl) (Nat.le_of_ble_eq_true rfl) (Nat.le_of_ble_eq_true rfl)
  by_cases h2 : ¬ (z2 = 0 ∨ z2 = 1)
  · skip
    obtain ⟨b, rfl⟩ := Int.eq_ofNat_of_zero_le (show 0 ≤ z1 from by omega)
    simp only [zI_nat]
    exact pair_mk (p_whatIs_2 T S P U O B Q C R tl rf b z2 hS hQ ⟨by omega, by omega⟩ (by omega) (by omega)) (q_whatIs_2 S (mkX M C T tl rf) K b z2 hS hM ⟨by omega, by omega⟩ (by omega) (by omega)) (hR) (Or.inl rfl) (Nat.le_of_ble_eq_true rfl) (Nat.le_of_ble_eq_true rfl) (Nat.le_of_ble_eq_true rfl) (Nat.le_of_ble_eq_true rfl)
  by_cases h3 : z2 = 0
  · skip
    obtain ⟨b, rfl⟩ := Int.eq_ofNat_of_zero_le (show 0 ≤ z1 from by omega)
    obtain rfl : z2 = 0 := by omega
    simp only [zI_nat]
    rw [show zI 0 = nI 0 from by decide]
    exact pair_mk (p_whatIs_w0 T S P U O B Q C R tl rf b hS hQ (by omega) htc htl) (q_whatIs_w0 S (mkX M C T tl rf) K b hS hM (by omega) htc htl) (hR) (Or.inl rfl) (Nat.le_of_ble_eq_true rfl) (Nat.le_of_ble_eq_true rfl) (Nat.le_of_ble_eq_true rfl) (Nat.le_of_ble_eq_true rfl)
  obtain ⟨b, rfl⟩ := Int.eq_ofNat_of_zero_le (show 0 ≤ z1 from by omega)
  obtain rfl : z2 = 1 := by omega
  simp only [zI_nat]
  rw [show zI 1 = nI 1 from by decide]
  exact pair_mk (p_whatIs_w1 T S P U O B Q C R tl rf b hS hQ (by omega) htc htl) (q_whatIs_w1 S (mkX M C T tl rf) K b hS hM (by omega) htc htl) (hR) (Or.inl rfl) (Nat.le_of_ble_eq_true rfl) (Nat.le_of_ble_eq_true rfl) (Nat.le_of_ble_eq_true rfl) (Nat.le_of_ble_eq_true rfl)
