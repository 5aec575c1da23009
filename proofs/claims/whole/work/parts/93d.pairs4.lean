theorem pr_row {l : Launch} {E : XE} {T : TopN} {S P U : SaleN} {O : OutN} {B : BillN} {Q : SeaN} {C : ScrN} {R : PrtN} {tl rf : Nat → Nat} {M : ModN} {K : Option (Nat → Nat)} (z1 : Int) (r1 : -2147483648 ≤ z1 ∧ z1 < 2147483648) (hR : RelO T S P C.lt C.sz tl K) (hQ : Q.fd < 2147483648) (hM : MOK S (mkX M C T tl rf)) : PairE Value.int l E mX6_row mX7_row [.int (zI z1)] T S P U O B Q C R tl rf M K := by
  obtain ⟨hS, hpr, hKP, hsz, hlt, htc, htl⟩ := id hR
  have hca := hS.1
  by_cases h1 : z1 < 0
  · skip
    exact pair_mk (p_row_4 T S P U O B Q C R tl rf z1 hS hQ ⟨by omega, by omega⟩ (by omega)) (q_row_4 S (mkX M C T tl rf) K z1 hS hM ⟨by omega, by omega⟩ (by omega)) (hR) (Or.inl rfl) (Nat.le_of_ble_eq_true rfl) (Nat.le_of_ble_eq_true rfl) (Nat.le_of_ble_eq_true rfl) (Nat.le_of_ble_eq_true rfl)
  by_cases h2 : 99 < z1
  · skip
    exact pair_mk (p_row_6a T S P U O B Q C R tl rf z1 hS hQ ⟨by omega, by omega⟩ (by omega)) (q_row_6a S (mkX M C T tl rf) K z1 hS hM ⟨by omega, by omega⟩ (by omega)) (hR) (Or.inl rfl) (Nat.le_of_ble_eq_true rfl) (Nat.le_of_ble_eq_true rfl) (Nat.le_of_ble_eq_true rfl) (Nat.le_of_ble_eq_true rfl)
  by_cases h3 : T.tc = 5
  · skip
    obtain ⟨v, rfl⟩ := Int.eq_ofNat_of_zero_le (show 0 ≤ z1 from by omega)
    simp only [zI_nat]
    exact pair_mk (p_row_6b T S P U O B Q C R tl rf v hS hQ (by omega) (by omega)) (q_row_6b S (mkX M C T tl rf) K v hS hM (by omega) (show T.tc = 5 from by omega)) (hR) (Or.inl rfl) (Nat.le_of_ble_eq_true rfl) (Nat.le_of_ble_eq_true rfl) (Nat.le_of_ble_eq_true rfl) (Nat.le_of_ble_eq_true rfl)
  obtain ⟨v, rfl⟩ := Int.eq_ofNat_of_zero_le (show 0 ≤ z1 from by omega)
  simp only [zI_nat]
  exact pair_mk (p_row_ok T S P U O B Q C R tl rf v hS hQ (by omega) (by omega)) (q_row_ok S (mkX M C T tl rf) K v hS hM (by omega) (show T.tc < 5 from by omega)) (hR.told (show T.tc + 1 ≤ 5 from by omega) (up_le htl (by omega))) (Or.inl rfl) (Nat.le_of_ble_eq_true rfl) (Nat.le_of_ble_eq_true rfl) (Nat.le_of_ble_eq_true rfl) (Nat.le_of_ble_eq_true rfl)
theorem pr_judge {l : Launch} {E : XE} {T : TopN} {S P U : SaleN} {O : OutN} {B : BillN} {Q : SeaN} {C : ScrN} {R : PrtN} {tl rf : Nat → Nat} {M : ModN} {K : Option (Nat → Nat)} (z1 : Int) (r1 : -2147483648 ≤ z1 ∧ z1 < 2147483648) (hR : RelO T S P C.lt C.sz tl K) (hQ : Q.fd < 2147483648) (hM : MOK S (mkX M C T tl rf)) : PairE Value.int l E mX6_judge mX7_judge [.int (zI z1)] T S P U O B Q C R tl rf M K := by
  obtain ⟨hS, hpr, hKP, hsz, hlt, htc, htl⟩ := id hR
  have hca := hS.1
  obtain ⟨n, hn⟩ := lifts_ex hS
  by_cases h1 : ¬ (0 ≤ z1 ∧ z1 < 3)
  · skip
    exact pair_mk (p_judge_2 T S P U O B Q C R tl rf z1 hS hQ ⟨by omega, by omega⟩ (by omega)) (q_judge_2 S (mkX M C T tl rf) K z1 hS hM ⟨by omega, by omega⟩ (by omega)) (hR) (Or.inl rfl) (Nat.le_of_ble_eq_true rfl) (Nat.le_of_ble_eq_true rfl) (Nat.le_of_ble_eq_true rfl) (Nat.le_of_ble_eq_true rfl)
  by_cases h2 : z1 = 0
  · skip
    obtain rfl : z1 = 0 := by omega
    rw [show zI 0 = nI 0 from by decide]
    exact pair_mk (p_judge_w0 T S P U O B Q C R tl rf n hS hQ hn htc htl) (q_judge_w0 S (mkX M C T tl rf) K n hS hM hn htc htl) (hR.told (Nat.zero_le 5) (fun k hk => absurd hk (Nat.not_lt_zero k))) (Or.inl rfl) (Nat.le_of_ble_eq_true rfl) (Nat.le_of_ble_eq_true rfl) (Nat.le_of_ble_eq_true rfl) (Nat.le_of_ble_eq_true rfl)
  by_cases h3 : z1 = 1
  · skip
    obtain rfl : z1 = 1 := by omega
    rw [show zI 1 = nI 1 from by decide]
    exact pair_mk (p_judge_w1 T S P U O B Q C R tl rf n hS hQ hn htc htl) (q_judge_w1 S (mkX M C T tl rf) K n hS hM hn htc htl) (hR.told (Nat.zero_le 5) (fun k hk => absurd hk (Nat.not_lt_zero k))) (Or.inl rfl) (Nat.le_of_ble_eq_true rfl) (Nat.le_of_ble_eq_true rfl) (Nat.le_of_ble_eq_true rfl) (Nat.le_of_ble_eq_true rfl)
  obtain rfl : z1 = 2 := by omega
  rw [show zI 2 = nI 2 from by decide]
  exact pair_mk (p_judge_w2 T S P U O B Q C R tl rf n hS hQ hn htc htl) (q_judge_w2 S (mkX M C T tl rf) K n hS hM hn htc htl) (hR.told (Nat.zero_le 5) (fun k hk => absurd hk (Nat.not_lt_zero k))) (Or.inl rfl) (Nat.le_of_ble_eq_true rfl) (Nat.le_of_ble_eq_true rfl) (Nat.le_of_ble_eq_true rfl) (Nat.le_of_ble_eq_true rfl)
theorem pr_clear {l : Launch} {E : XE} {T : TopN} {S P U : SaleN} {O : OutN} {B : BillN} {Q : SeaN} {C : ScrN} {R : PrtN} {tl rf : Nat → Nat} {M : ModN} {K : Option (Nat → Nat)}   (hR : RelO T S P C.lt C.sz tl K) (hQ : Q.fd < 2147483648) (hM : MOK S (mkX M C T tl rf)) : PairE Value.int l E mX6_clear mX7_clear [] T S P U O B Q C R tl rf M K := by
  obtain ⟨hS, hpr, hKP, hsz, hlt, htc, htl⟩ := id hR
  have hca := hS.1
  exact pair_mk (p_clear_ok T S P U O B Q C R tl rf hS hQ htc) (q_clear_ok S (mkX M C T tl rf) K hS hM htc) (hR.told (Nat.zero_le 5) (fun k hk => absurd hk (Nat.not_lt_zero k))) (Or.inl rfl) (Nat.le_of_ble_eq_true rfl) (Nat.le_of_ble_eq_true rfl) (Nat.le_of_ble_eq_true rfl) (Nat.le_of_ble_eq_true rfl)
theorem pr_lots {l : Launch} {E : XE} {T : TopN} {S P U : SaleN} {O : OutN} {B : BillN} {Q : SeaN} {C : ScrN} {R : PrtN} {tl rf : Nat → Nat} {M : ModN} {K : Option (Nat → Nat)} (z1 : Int) (z2 : Int) (z3 : Int) (r1 : -2147483648 ≤ z1 ∧ z1 < 2147483648) (r2 : -2147483648 ≤ z2 ∧ z2 < 2147483648) (r3 : -2147483648 ≤ z3 ∧ z3 < 2147483648) (hR : RelO T S P C.lt C.sz tl K) (hQ : Q.fd < 2147483648) (hM : MOK S (mkX M C T tl rf)) : PairE Value.int l E mX6_lots mX7_lots [.int (zI z1), .int (zI z2), .int (zI z3)] T S P U O B Q C R tl rf M K := by
  obtain ⟨hS, hpr, hKP, hsz, hlt, htc, htl⟩ := id hR
  have hca := hS.1
  by_cases h1 : z1 < 1
  · skip
    exact pair_mk (p_lots_4 T S P U O B Q C R tl rf z1 z2 z3 hS hQ ⟨by omega, by omega⟩ ⟨by omega, by omega⟩ ⟨by omega, by omega⟩ (by omega)) (q_lots_4 S (mkX M C T tl rf) K z1 z2 z3 hS hM ⟨by omega, by omega⟩ ⟨by omega, by omega⟩ ⟨by omega, by omega⟩ (by omega)) (hR) (Or.inl rfl) (Nat.le_of_ble_eq_true rfl) (Nat.le_of_ble_eq_true rfl) (Nat.le_of_ble_eq_true rfl) (Nat.le_of_ble_eq_true rfl)
  by_cases h2 : 20 < z1
  · skip
    exact pair_mk (p_lots_6 T S P U O B Q C R tl rf z1 z2 z3 hS hQ ⟨by omega, by omega⟩ ⟨by omega, by omega⟩ ⟨by omega, by omega⟩ (by omega)) (q_lots_6 S (mkX M C T tl rf) K z1 z2 z3 hS hM ⟨by omega, by omega⟩ ⟨by omega, by omega⟩ ⟨by omega, by omega⟩ (by omega)) (hR) (Or.inl rfl) (Nat.le_of_ble_eq_true rfl) (Nat.le_of_ble_eq_true rfl) (Nat.le_of_ble_eq_true rfl) (Nat.le_of_ble_eq_true rfl)
  by_cases h3 : ¬ (z3 = 0 ∨ z3 = 1)
  · skip
    exact pair_mk (p_lots_2 T S P U O B Q C R tl rf z1 z2 z3 hS hQ ⟨by omega, by omega⟩ ⟨by omega, by omega⟩ ⟨by omega, by omega⟩ (by omega) (by omega)) (q_lots_2 S (mkX M C T tl rf) K z1 z2 z3 hS hM ⟨by omega, by omega⟩ ⟨by omega, by omega⟩ ⟨by omega, by omega⟩ (by omega) (by omega)) (hR) (Or.inl rfl) (Nat.le_of_ble_eq_true rfl) (Nat.le_of_ble_eq_true rfl) (Nat.le_of_ble_eq_true rfl) (Nat.le_of_ble_eq_true rfl)
  by_cases h4 : z3 = 0
  · skip
    obtain ⟨n, rfl⟩ := Int.eq_ofNat_of_zero_le (show 0 ≤ z1 from by omega)
    obtain rfl : z3 = 0 := by omega
    simp only [zI_nat]
    rw [show zI 0 = nI 0 from by decide]
    cases K with
    | none => exact pair_mk (p_lots_w0 T S P U O B Q C R tl rf n (zI z2) hS hQ (by omega)) (q_lots_w0_n S (mkX M C T tl rf) n (zI z2) hS hM (by omega)) (hR) (Or.inl rfl) (Nat.le_of_ble_eq_true rfl) (Nat.le_of_ble_eq_true rfl) (Nat.le_of_ble_eq_true rfl) (Nat.le_of_ble_eq_true rfl)
    | some kf => exact pair_mk (p_lots_w0 T S P U O B Q C R tl rf n (zI z2) hS hQ (by omega)) (q_lots_w0_s S (mkX M C T tl rf) kf n (zI z2) hS hM (by omega)) (hR) (Or.inl rfl) (Nat.le_of_ble_eq_true rfl) (Nat.le_of_ble_eq_true rfl) (Nat.le_of_ble_eq_true rfl) (Nat.le_of_ble_eq_true rfl)
  obtain ⟨n, rfl⟩ := Int.eq_ofNat_of_zero_le (show 0 ≤ z1 from by omega)
  obtain rfl : z3 = 1 := by omega
  simp only [zI_nat]
  rw [show zI 1 = nI 1 from by decide]
  cases K with
  | none => exact pair_mk (p_lots_w1 T S P U O B Q C R tl rf n (zI z2) hS hQ (by omega)) (q_lots_w1_n S (mkX M C T tl rf) n (zI z2) hS hM (by omega)) (hR) (Or.inl rfl) (Nat.le_of_ble_eq_true rfl) (Nat.le_of_ble_eq_true rfl) (Nat.le_of_ble_eq_true rfl) (Nat.le_of_ble_eq_true rfl)
  | some kf => exact pair_mk (p_lots_w1 T S P U O B Q C R tl rf n (zI z2) hS hQ (by omega)) (q_lots_w1_s S (mkX M C T tl rf) kf n (zI z2) hS hM (by omega)) (hR) (Or.inl rfl) (Nat.le_of_ble_eq_true rfl) (Nat.le_of_ble_eq_true rfl) (Nat.le_of_ble_eq_true rfl) (Nat.le_of_ble_eq_true rfl)
theorem pr_count {l : Launch} {E : XE} {T : TopN} {S P U : SaleN} {O : OutN} {B : BillN} {Q : SeaN} {C : ScrN} {R : PrtN} {tl rf : Nat → Nat} {M : ModN} {K : Option (Nat → Nat)} (z1 : Int) (r1 : -2147483648 ≤ z1 ∧ z1 < 2147483648) (hR : RelO T S P C.lt C.sz tl K) (hQ : Q.fd < 2147483648) (hM : MOK S (mkX M C T tl rf)) : PairE Value.int l E mX6_count mX7_count [.int (zI z1)] T S P U O B Q C R tl rf M K := by
  obtain ⟨hS, hpr, hKP, hsz, hlt, htc, htl⟩ := id hR
  have hca := hS.1
  by_cases h1 : z1 < 0 ∨ (6 < z1 ∧ z1 < 11)
  · skip
    exact pair_mk (p_count_oth1 T S P U O B Q C R tl rf z1 hS hQ ⟨by omega, by omega⟩ (by omega)) (q_count_oth1 S (mkX M C T tl rf) K z1 hS hM ⟨by omega, by omega⟩ (by omega)) (hR) (Or.inl rfl) (Nat.le_of_ble_eq_true rfl) (Nat.le_of_ble_eq_true rfl) (Nat.le_of_ble_eq_true rfl) (Nat.le_of_ble_eq_true rfl)
  by_cases h2 : 16 < z1
  · skip
    exact pair_mk (p_count_oth2 T S P U O B Q C R tl rf z1 hS hQ ⟨by omega, by omega⟩ (by omega)) (q_count_oth2 S (mkX M C T tl rf) K z1 hS hM ⟨by omega, by omega⟩ (by omega)) (hR) (Or.inl rfl) (Nat.le_of_ble_eq_true rfl) (Nat.le_of_ble_eq_true rfl) (Nat.le_of_ble_eq_true rfl) (Nat.le_of_ble_eq_true rfl)
  by_cases h3 : z1 = 0
  · skip
    obtain rfl : z1 = 0 := by omega
    rw [show zI 0 = nI 0 from by decide]
    exact pair_mk (p_count_w0 T S P U O B Q C R tl rf hS hQ) (q_count_w0 S (mkX M C T tl rf) K hS hM) (hR) (Or.inl rfl) (Nat.le_of_ble_eq_true rfl) (Nat.le_of_ble_eq_true rfl) (Nat.le_of_ble_eq_true rfl) (Nat.le_of_ble_eq_true rfl)
  by_cases h4 : z1 = 1
  · skip
    obtain rfl : z1 = 1 := by omega
    rw [show zI 1 = nI 1 from by decide]
    exact pair_mk (p_count_w1 T S P U O B Q C R tl rf hS hQ) (q_count_w1 S (mkX M C T tl rf) K hS hM) (hR) (Or.inl rfl) (Nat.le_of_ble_eq_true rfl) (Nat.le_of_ble_eq_true rfl) (Nat.le_of_ble_eq_true rfl) (Nat.le_of_ble_eq_true rfl)
  by_cases h5 : z1 = 2
  · skip
    obtain rfl : z1 = 2 := by omega
    rw [show zI 2 = nI 2 from by decide]
    exact pair_mk (p_count_w2 T S P U O B Q C R tl rf hS hQ) (q_count_w2 S (mkX M C T tl rf) K hS hM) (hR) (Or.inl rfl) (Nat.le_of_ble_eq_true rfl) (Nat.le_of_ble_eq_true rfl) (Nat.le_of_ble_eq_true rfl) (Nat.le_of_ble_eq_true rfl)
  by_cases h6 : z1 = 3
  · skip
    obtain rfl : z1 = 3 := by omega
    rw [show zI 3 = nI 3 from by decide]
    exact pair_mk (p_count_w3 T S P U O B Q C R tl rf hS hQ) (q_count_w3 S (mkX M C T tl rf) K hS hM) (hR) (Or.inl rfl) (Nat.le_of_ble_eq_true rfl) (Nat.le_of_ble_eq_true rfl) (Nat.le_of_ble_eq_true rfl) (Nat.le_of_ble_eq_true rfl)
  by_cases h7 : z1 = 4
  · skip
    obtain rfl : z1 = 4 := by omega
    rw [show zI 4 = nI 4 from by decide]
    exact pair_mk (p_count_w4 T S P U O B Q C R tl rf hS hQ) (q_count_w4 S (mkX M C T tl rf) K hS hM) (hR) (Or.inl rfl) (Nat.le_of_ble_eq_true rfl) (Nat.le_of_ble_eq_true rfl) (Nat.le_of_ble_eq_true rfl) (Nat.le_of_ble_eq_true rfl)
  by_cases h8 : z1 = 5
  · skip
    obtain rfl : z1 = 5 := by omega
    rw [show zI 5 = nI 5 from by decide]
    exact pair_mk (p_count_w5 T S P U O B Q C R tl rf hS hQ) (q_count_w5 S (mkX M C T tl rf) K hS hM) (hR) (Or.inl rfl) (Nat.le_of_ble_eq_true rfl) (Nat.le_of_ble_eq_true rfl) (Nat.le_of_ble_eq_true rfl) (Nat.le_of_ble_eq_true rfl)
  by_cases h9 : z1 = 6
  · skip
    obtain rfl : z1 = 6 := by omega
    rw [show zI 6 = nI 6 from by decide]
    exact pair_mk (p_count_w6 T S P U O B Q C R tl rf hS hQ) (q_count_w6 S (mkX M C T tl rf) K hS hM) (hR) (Or.inl rfl) (Nat.le_of_ble_eq_true rfl) (Nat.le_of_ble_eq_true rfl) (Nat.le_of_ble_eq_true rfl) (Nat.le_of_ble_eq_true rfl)
  by_cases h10 : z1 = 11
  · skip
    obtain rfl : z1 = 11 := by omega
    rw [show zI 11 = nI 11 from by decide]
    exact pair_mk (p_count_w11 T S P U O B Q C R tl rf hS hQ) (q_count_w11 S (mkX M C T tl rf) K hS hM) (hR) (Or.inl rfl) (Nat.le_of_ble_eq_true rfl) (Nat.le_of_ble_eq_true rfl) (Nat.le_of_ble_eq_true rfl) (Nat.le_of_ble_eq_true rfl)
  by_cases h11 : z1 = 12
  · skip
    obtain rfl : z1 = 12 := by omega
    rw [show zI 12 = nI 12 from by decide]
    exact pair_mk (p_count_w12 T S P U O B Q C R tl rf hS hQ) (q_count_w12 S (mkX M C T tl rf) K hS hM) (hR) (Or.inl rfl) (Nat.le_of_ble_eq_true rfl) (Nat.le_of_ble_eq_true rfl) (Nat.le_of_ble_eq_true rfl) (Nat.le_of_ble_eq_true rfl)
  by_cases h12 : z1 = 13
  · skip
    obtain rfl : z1 = 13 := by omega
    rw [show zI 13 = nI 13 from by decide]
    exact pair_mk (p_count_w13 T S P U O B Q C R tl rf hS hQ) (q_count_w13 S (mkX M C T tl rf) K hS hM) (hR) (Or.inl rfl) (Nat.le_of_ble_eq_true rfl) (Nat.le_of_ble_eq_true rfl) (Nat.le_of_ble_eq_true rfl) (Nat.le_of_ble_eq_true rfl)
  by_cases h13 : z1 = 14
  · skip
    obtain rfl : z1 = 14 := by omega
    rw [show zI 14 = nI 14 from by decide]
    exact pair_mk (p_count_w14 T S P U O B Q C R tl rf hS hQ) (q_count_w14 S (mkX M C T tl rf) K hS hM) (hR) (Or.inl rfl) (Nat.le_of_ble_eq_true rfl) (Nat.le_of_ble_eq_true rfl) (Nat.le_of_ble_eq_true rfl) (Nat.le_of_ble_eq_true rfl)
  by_cases h14 : z1 = 15
  · skip
    obtain rfl : z1 = 15 := by omega
    rw [show zI 15 = nI 15 from by decide]
    exact pair_mk (p_count_w15 T S P U O B Q C R tl rf hS hQ) (q_count_w15 S (mkX M C T tl rf) K hS hM) (hR) (Or.inl rfl) (Nat.le_of_ble_eq_true rfl) (Nat.le_of_ble_eq_true rfl) (Nat.le_of_ble_eq_true rfl) (Nat.le_of_ble_eq_true rfl)
  obtain rfl : z1 = 16 := by omega
  rw [show zI 16 = nI 16 from by decide]
  exact pair_mk (p_count_w16 T S P U O B Q C R tl rf hS hQ) (q_count_w16 S (mkX M C T tl rf) K hS hM) (hR) (Or.inl rfl) (Nat.le_of_ble_eq_true rfl) (Nat.le_of_ble_eq_true rfl) (Nat.le_of_ble_eq_true rfl) (Nat.le_of_ble_eq_true rfl)
theorem pr_on {l : Launch} {E : XE} {T : TopN} {S P U : SaleN} {O : OutN} {B : BillN} {Q : SeaN} {C : ScrN} {R : PrtN} {tl rf : Nat → Nat} {M : ModN} {K : Option (Nat → Nat)} (hR : RelO T S P C.lt C.sz tl K) (hQ : Q.fd < 2147483648) (hM : MOK S (mkX M C T tl rf)) : PairE Value.int l E mX6_on mX7_on [] T S P U O B Q C R tl rf M K := by
  obtain ⟨hS, hpr, hKP, hsz, hlt, htc, htl⟩ := id hR
  have hca := hS.1
  rcases hKP with ⟨hh, rfl⟩ | ⟨hh, rfl, hP, hPp⟩
  · exact pair_mk (p_on_3 T S P U O B Q C R tl rf hS hQ hh) (q_on_3 S (mkX M C T tl rf) hS hM) hR (Or.inl rfl) (Nat.le_of_ble_eq_true rfl) (Nat.le_of_ble_eq_true rfl) (Nat.le_of_ble_eq_true rfl) (Nat.le_of_ble_eq_true rfl)
  · exact pair_mk (p_on_ok T S P U O B Q C R tl rf hS hQ hh) (q_on_ok S P (mkX M C T tl rf) hS hM hP) ⟨hP, hPp, Or.inr ⟨hh, rfl, hP, hPp⟩, hsz, hlt, htc, htl⟩ (Or.inl rfl) (Nat.le_of_ble_eq_true rfl) (Nat.le_of_ble_eq_true rfl) (Nat.le_of_ble_eq_true rfl) (Nat.le_of_ble_eq_true rfl)
theorem pr_image {l : Launch} {E : XE} {T : TopN} {S P U : SaleN} {O : OutN} {B : BillN} {Q : SeaN} {C : ScrN} {R : PrtN} {tl rf : Nat → Nat} {M : ModN} {K : Option (Nat → Nat)} (hR : RelO T S P C.lt C.sz tl K) (hQ : Q.fd < 2147483648) (hM : MOK S (mkX M C T tl rf)) : PairE Value.int l E mX6_image mX7_image [] T S P U O B Q C R tl rf M K := by
  obtain ⟨hS, hpr, hKP, hsz, hlt, htc, htl⟩ := id hR
  have hca := hS.1
  have hR2 : RelO ((T.tc, 1) : TopN) S S C.lt C.sz tl (some (rowS S)) := ⟨hS, hpr, Or.inr ⟨rfl, rfl, hS, hpr⟩, hsz, hlt, htc, htl⟩
  cases K with
  | none => exact pair_mk (p_image_ok T S P U O B Q C R tl rf hS hQ) (q_image_ok_n S (mkX M C T tl rf) hS hM) hR2 (Or.inr rfl) (Nat.le_of_ble_eq_true rfl) (Nat.le_of_ble_eq_true rfl) (Nat.le_of_ble_eq_true rfl) (Nat.le_of_ble_eq_true rfl)
  | some kf =>
    refine ⟨nI S.ca, _, S, S, C.lt, C.sz, tl, rf, some (rowS S), 2, 1, 1, 48, (Nat.le_of_ble_eq_true rfl), (Nat.le_of_ble_eq_true rfl), (Nat.le_of_ble_eq_true rfl), (Nat.le_of_ble_eq_true rfl), hR2, p_image_ok T S P U O B Q C R tl rf hS hQ, (q_image_ok_s S (mkX M C T tl rf) kf hS hM).mono ?_⟩
    rintro r w' ⟨rfl, rfl⟩
    exact ⟨rfl, mkX M C T tl rf, hM, rfl, rfl, rfl, rfl, rfl, Or.inr ⟨kf, rowS S, rfl, rfl, rfl⟩⟩
theorem pr_auction {l : Launch} {E : XE} {T : TopN} {S P U : SaleN} {O : OutN} {B : BillN} {Q : SeaN} {C : ScrN} {R : PrtN} {tl rf : Nat → Nat} {M : ModN} {K : Option (Nat → Nat)} (hR : RelO T S P C.lt C.sz tl K) (hQ : Q.fd < 2147483648) (hM : MOK S (mkX M C T tl rf)) : PairE Value.int l E mX6_auction mX7_auction [] T S P U O B Q C R tl rf M K := by
  obtain ⟨hS, hpr, hKP, hsz, hlt, htc, htl⟩ := id hR
  have hca := hS.1
  have hO : SaleOK (obS (prsS C) S) ∧ ∀ k, k < (obS (prsS C) S).ca → 1 ≤ (obS (prsS C) S).pr k := by
    unfold obS
    split
    · exact ⟨oGo_ok (prs_facts (C := C) rfl rfl hsz).2.2.2.2 _ _ _ (Nat.le_of_eq (Nat.zero_add _)) hS, oGo_pr _ _ _ hpr⟩
    · exact ⟨hS, hpr⟩
  have hR0 : ((T.hp = 0 ∧ K = none) ∨ (T.hp = 1 ∧ K = some (rowS P) ∧ SaleOK P ∧ ∀ k, k < P.ca → 1 ≤ P.pr k)) ∧ 0 ≤ 96 ∧ (∀ k, k < 0 → C.lt k ≤ 255) ∧ T.tc ≤ 5 ∧ ∀ k, k < T.tc → tl k ≤ 99 := ⟨hKP, by omega, fun k hk => by omega, htc, htl⟩
  cases K with
  | none =>
    by_cases hf : (prsS C).fa = -9
    · exact pair_mk (p_auction_rest T S P U O B Q C R tl rf hS hQ ⟨hsz, hlt⟩ hf) (q_auction_rest_n S (mkX M C T tl rf) C hS hM hlt hsz rfl rfl hf) (⟨hO.1, hO.2, hR0⟩) (Or.inl rfl) (Nat.le_of_ble_eq_true rfl) (Nat.le_of_ble_eq_true rfl) (Nat.le_of_ble_eq_true rfl) (Nat.le_of_ble_eq_true rfl)
    · exact pair_mk (p_auction_form T S P U O B Q C R tl rf hS hQ ⟨hsz, hlt⟩ hf) (q_auction_form_n S (mkX M C T tl rf) C hS hM hlt hsz rfl rfl hf) ⟨hS, hpr, hR0⟩ (Or.inl rfl) (Nat.le_of_ble_eq_true rfl) (Nat.le_of_ble_eq_true rfl) (Nat.le_of_ble_eq_true rfl) (Nat.le_of_ble_eq_true rfl)
  | some kf =>
    by_cases hf : (prsS C).fa = -9
    · exact pair_mk (p_auction_rest T S P U O B Q C R tl rf hS hQ ⟨hsz, hlt⟩ hf) (q_auction_rest_s S (mkX M C T tl rf) kf C hS hM hlt hsz rfl rfl hf) (⟨hO.1, hO.2, hR0⟩) (Or.inl rfl) (Nat.le_of_ble_eq_true rfl) (Nat.le_of_ble_eq_true rfl) (Nat.le_of_ble_eq_true rfl) (Nat.le_of_ble_eq_true rfl)
    · exact pair_mk (p_auction_form T S P U O B Q C R tl rf hS hQ ⟨hsz, hlt⟩ hf) (q_auction_form_s S (mkX M C T tl rf) kf C hS hM hlt hsz rfl rfl hf) ⟨hS, hpr, hR0⟩ (Or.inl rfl) (Nat.le_of_ble_eq_true rfl) (Nat.le_of_ble_eq_true rfl) (Nat.le_of_ble_eq_true rfl) (Nat.le_of_ble_eq_true rfl)
