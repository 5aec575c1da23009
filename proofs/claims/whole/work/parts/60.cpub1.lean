/-! ===== the component: longs, mean, missing, lots ===== -/
theorem powL_n (x : Nat) : ∀ n, powL (lN x) n = lN (x ^ n)
  | 0 => by
    show (1 : Int64) = lN (x ^ 0)
    rw [Nat.pow_zero]
    decide
  | n + 1 => by
    show powL (lN x) n * lN x = lN (x ^ (n + 1))
    rw [powL_n x n, lN_mul, Nat.pow_succ]
theorem hap_lt {f : Nat → Int} : ∀ n, hapTo f n < 2 ^ n
  | 0 => Nat.two_pow_pos 0
  | n + 1 => by
    have h1 := hap_lt (f := f) n
    have h2 : (2 : Nat) ^ n < 2 ^ (n + 1) := Nat.pow_lt_pow_right (by decide) (by omega)
    rw [hapTo_s]
    split
    · exact or_lt (by omega) (shl_lt (by omega))
    · omega
theorem pop_shl : ∀ n, n < 10 → popTo (1 <<< n) 10 = 1 := by decide
theorem pop_hap0 {f : Nat → Int} : ∀ n, n ≤ 10 → popTo (hapTo f n) 10 = cntTo f n
  | 0, _ => by
    show popTo 0 10 = 0
    decide
  | n + 1, hn => by
    rw [hapTo_s, cntTo_s]
    have ih := pop_hap0 (f := f) n (by omega)
    split
    · have h0 : hapTo f n &&& 1 <<< n = 0 := by
        apply Nat.eq_of_testBit_eq
        intro i
        rw [Nat.testBit_and, Nat.one_shiftLeft, Nat.testBit_two_pow, Nat.zero_testBit]
        by_cases e : n = i
        · subst e
          rw [tb_lt (hap_lt n) (Nat.le_refl _)]
          rfl
        · simp [e]
      rw [pop_or h0, ih, pop_shl n (by omega)]
    · exact ih
theorem pop_hap (f : Nat → Int) : pop (hapTo f 5) = cntTo f 5 := pop_hap0 5 (by decide)
theorem bX6_greatestDivisor_0_9 {l : Launch} {E : XE} : Snd l E mX6_greatestDivisor 0 9 (xs [x_lload 0, x_lstore 4, x_lload 2, x_lstore 6, x_push (.int (nI 0)), x_istore 8]) := Snd.cons (snd_lload_n (i := 0) dX6_greatestDivisor_0 rfl) (Snd.cons (snd_lstore dX6_greatestDivisor_1 (by decide)) (Snd.cons (snd_lload_n (i := 2) dX6_greatestDivisor_3 rfl) (Snd.cons (snd_lstore dX6_greatestDivisor_4 (by decide)) (Snd.cons (snd_iconst (v := nI 0) dX6_greatestDivisor_6 (by decide)) (Snd.cons (snd_istore dX6_greatestDivisor_7 (by decide)) Snd.nil)))))
theorem bX6_greatestDivisor_9_14 {l : Launch} {E : XE} : Snd l E mX6_greatestDivisor 9 14 (xs [x_iload 8, x_push (.int (nI 200))]) := Snd.cons (snd_iload dX6_greatestDivisor_9) (Snd.cons (snd_sipush (v := nI 200) dX6_greatestDivisor_11 (by decide)) Snd.nil)
theorem bX6_greatestDivisor_45_47 {l : Launch} {E : XE} : Snd l E mX6_greatestDivisor 45 47 (xs [x_lload 4]) := Snd.cons (snd_lload dX6_greatestDivisor_45) Snd.nil
theorem bX6_greatestDivisor_17_21 {l : Launch} {E : XE} : Snd l E mX6_greatestDivisor 17 21 (xs [x_lload 6, x_push (.long 0), x_lcmp]) := Snd.cons (snd_lload dX6_greatestDivisor_17) (Snd.cons (snd_lconst (v := 0) dX6_greatestDivisor_19 (by decide)) (Snd.cons (snd_lcmp dX6_greatestDivisor_20) Snd.nil))
theorem bX6_greatestDivisor_24_28 {l : Launch} {E : XE} : Snd l E mX6_greatestDivisor 24 28 (xs [x_lload 4, x_lload 6]) := Snd.cons (snd_lload dX6_greatestDivisor_24) (Snd.cons (snd_lload dX6_greatestDivisor_26) Snd.nil)
theorem bX6_greatestDivisor_29_39 {l : Launch} {E : XE} : Snd l E mX6_greatestDivisor 29 39 (xs [x_lstore 9, x_lload 6, x_lstore 4, x_lload 9, x_lstore 6]) := Snd.cons (snd_lstore dX6_greatestDivisor_29 (by decide)) (Snd.cons (snd_lload dX6_greatestDivisor_31) (Snd.cons (snd_lstore dX6_greatestDivisor_33 (by decide)) (Snd.cons (snd_lload dX6_greatestDivisor_35) (Snd.cons (snd_lstore dX6_greatestDivisor_37 (by decide)) Snd.nil))))
theorem bX6_greatestDivisor_42_9 {l : Launch} {E : XE} : Snd l E mX6_greatestDivisor 42 9 (xs [x_id]) := Snd.cons (snd_goto (tgt := 9) dX6_greatestDivisor_42 (by decide)) Snd.nil
set_option maxHeartbeats 4000000 in
set_option maxRecDepth 100000 in
theorem m_X6_greatestDivisor {l : Launch} {E : XE} (a b : Nat) (ha : a < big) (hb : b < big) : MetE l E mX6_greatestDivisor (0) 0 0 [.long (lN a), .long (lN b)] ([]) (fun r w' => r = some (.long (lN (Nat.gcd a b))) ∧ w' = []) := by
  refine MetE.of (by decide +kernel) (Nat.le_of_ble_eq_true rfl) ?_
  refine ev_eq (lv' := [(0, .long (lN a)), (2, .long (lN b))]) (st' := []) (w' := []) rfl rfl rfl ?_
  refine ev_b bX6_greatestDivisor_0_9 (lv' := [(8, .int (nI (0))), (6, .long (lN b)), (4, .long (lN a)), (0, .long (lN a)), (2, .long (lN b))]) (st' := []) (w2 := []) rfl ?_
  have L9 : ∀ (j_ k : Nat), k + j_ = 200 → ∀ (x y : Nat), (EuI a b k x y) → Ev l E mX6_greatestDivisor (0) 0 0 ([]) (fun r w' => r = some (.long (lN (Nat.gcd a b))) ∧ w' = []) 0 0 9 [(8, .int (nI (k))), (4, .long (lN x)), (6, .long (lN y))] [] ([]) := by
    intro j_
    induction j_ with
    | zero =>
      intro k hk9 x y hinv9
      replace hk9 : k = 200 := hk9
      have hy := eu_end (x := x) (y := y) (by rw [← hk9]; exact hinv9)
      refine ev_b bX6_greatestDivisor_9_14 (lv' := [(8, .int (nI (k))), (4, .long (lN x)), (6, .long (lN y))]) (st' := [.int (nI (200)), .int (nI (k))]) (w2 := []) rfl ?_
      refine ev_icmp_ge_n (tgt := 45) (by omega) (by decide) dX6_greatestDivisor_14 (by decide) (fun h14 => ?_) (fun h14 => (by exfalso; omega))
      refine ev_b bX6_greatestDivisor_45_47 (lv' := [(8, .int (nI (k))), (4, .long (lN x)), (6, .long (lN y))]) (st' := [.long (lN x)]) (w2 := []) rfl ?_
      exact ev_lret dX6_greatestDivisor_47 rfl (Nat.le_of_ble_eq_true rfl) (Nat.le_refl _) (Nat.le_refl _) ⟨(by first | (rw [hy] at hinv9; rw [eu_gcd hinv9]) | (have hy0 := (lcmp_0 hinv9.2.2.1).mp h21; rw [hy0] at hinv9; rw [eu_gcd hinv9])), rfl⟩
    | succ j_ ih9 =>
      intro k hk9 x y hinv9
      have hlt9 : k < 200 := by omega
      refine ev_b bX6_greatestDivisor_9_14 (lv' := [(8, .int (nI (k))), (4, .long (lN x)), (6, .long (lN y))]) (st' := [.int (nI (200)), .int (nI (k))]) (w2 := []) rfl ?_
      refine ev_icmp_ge_n (tgt := 45) (by omega) (by decide) dX6_greatestDivisor_14 (by decide) (fun h14 => (by exfalso; omega)) (fun h14 => ?_)
      refine ev_b bX6_greatestDivisor_17_21 (lv' := [(8, .int (nI (k))), (4, .long (lN x)), (6, .long (lN y))]) (st' := [.int (lg_cmp (lN y) 0)]) (w2 := []) rfl ?_
      refine ev_if_eq (tgt := 45) dX6_greatestDivisor_21 (by decide) (fun h21 => ?_) (fun h21 => ?_)
      · skip
        refine ev_b bX6_greatestDivisor_45_47 (lv' := [(8, .int (nI (k))), (4, .long (lN x)), (6, .long (lN y))]) (st' := [.long (lN x)]) (w2 := []) rfl ?_
        exact ev_lret dX6_greatestDivisor_47 rfl (Nat.le_of_ble_eq_true rfl) (Nat.le_refl _) (Nat.le_refl _) ⟨(by first | (rw [hy] at hinv9; rw [eu_gcd hinv9]) | (have hy0 := (lcmp_0 hinv9.2.2.1).mp h21; rw [hy0] at hinv9; rw [eu_gcd hinv9])), rfl⟩
      · skip
        refine ev_b bX6_greatestDivisor_24_28 (lv' := [(8, .int (nI (k))), (4, .long (lN x)), (6, .long (lN y))]) (st' := [.long (lN y), .long (lN x)]) (w2 := []) rfl ?_
        refine ev_lrem dX6_greatestDivisor_28 (by exact lN_ne hinv9.2.2.1 (fun z => h21 ((lcmp_0 hinv9.2.2.1).mpr z))) ?_
        refine ev_topL (y := lN (x % y)) (by exact lN_rem hinv9.2.1 hinv9.2.2.1) ?_
        refine ev_b bX6_greatestDivisor_29_39 (lv' := [(6, .long (lN (x % y))), (4, .long (lN y)), (9, .long (lN (x % y))), (8, .int (nI (k)))]) (st' := []) (w2 := []) rfl ?_
        refine ev_iinc_n (x := k) (v := 1) dX6_greatestDivisor_39 rfl (by decide) ?_
        refine ev_eq (lv' := [(8, .int (nI (k + 1))), (6, .long (lN (x % y))), (4, .long (lN y)), (9, .long (lN (x % y)))]) rfl rfl rfl ?_
        refine ev_b bX6_greatestDivisor_42_9 (lv' := [(8, .int (nI (k + 1))), (6, .long (lN (x % y))), (4, .long (lN y)), (9, .long (lN (x % y)))]) (st' := []) (w2 := []) rfl ?_
        refine ev_pick (lv' := [(8, .int (nI (k + 1))), (4, .long (lN y)), (6, .long (lN (x % y)))]) rfl ?_
        rw [show nI (k + 1) = nI ((k + 1)) from congrArg nI (by omega)]
        exact ih9 (k + 1) (by omega) _ _ (eu_step hinv9 (fun z => h21 ((lcmp_0 hinv9.2.2.1).mpr z)))
  refine ev_pick (lv' := [(8, .int (nI (0))), (4, .long (lN a)), (6, .long (lN b))]) rfl ?_
  exact L9 200 0 (by omega) a b (eu_start ha hb)
theorem bX6_fraction_0_3 {l : Launch} {E : XE} : Snd l E mX6_fraction 0 3 (xs [x_lload 0, x_push (.long 0), x_lcmp]) := Snd.cons (snd_lload_n (i := 0) dX6_fraction_0 rfl) (Snd.cons (snd_lconst (v := 0) dX6_fraction_1 (by decide)) (Snd.cons (snd_lcmp dX6_fraction_2) Snd.nil))
theorem bX6_fraction_12_15 {l : Launch} {E : XE} : Snd l E mX6_fraction 12 15 (xs [x_iload 4, x_i2l]) := Snd.cons (snd_iload dX6_fraction_12) (Snd.cons (snd_i2l dX6_fraction_14) Snd.nil)
theorem bX6_fraction_6_9 {l : Launch} {E : XE} : Snd l E mX6_fraction 6 9 (xs [x_lload 2, x_push (.long 0), x_lcmp]) := Snd.cons (snd_lload_n (i := 2) dX6_fraction_6 rfl) (Snd.cons (snd_lconst (v := 0) dX6_fraction_7 (by decide)) (Snd.cons (snd_lcmp dX6_fraction_8) Snd.nil))
theorem bX6_fraction_16_18 {l : Launch} {E : XE} : Snd l E mX6_fraction 16 18 (xs [x_lload 0, x_lload 2]) := Snd.cons (snd_lload_n (i := 0) dX6_fraction_16 rfl) (Snd.cons (snd_lload_n (i := 2) dX6_fraction_17 rfl) Snd.nil)
theorem bX6_fraction_21_25 {l : Launch} {E : XE} : Snd l E mX6_fraction 21 25 (xs [x_lstore 5, x_iload 4]) := Snd.cons (snd_lstore dX6_fraction_21 (by decide)) (Snd.cons (snd_iload dX6_fraction_23) Snd.nil)
theorem bX6_fraction_28_39 {l : Launch} {E : XE} : Snd l E mX6_fraction 28 39 (xs [x_lload 0, x_id, x_lstore 7, x_lload 5, x_push (.long 0), x_lcmp]) := Snd.cons (snd_lload_n (i := 0) dX6_fraction_28 rfl) (Snd.cons (snd_goto (tgt := 33) dX6_fraction_29 (by decide)) (Snd.cons (snd_lstore dX6_fraction_33 (by decide)) (Snd.cons (snd_lload dX6_fraction_35) (Snd.cons (snd_lconst (v := 0) dX6_fraction_37 (by decide)) (Snd.cons (snd_lcmp dX6_fraction_38) Snd.nil)))))
theorem bX6_fraction_47_51 {l : Launch} {E : XE} : Snd l E mX6_fraction 47 51 (xs [x_lload 7, x_lload 5]) := Snd.cons (snd_lload dX6_fraction_47) (Snd.cons (snd_lload dX6_fraction_49) Snd.nil)
set_option maxHeartbeats 4000000 in
set_option maxRecDepth 100000 in
theorem m_X6_fraction_0 {l : Launch} {E : XE} (a b : Nat) (ha : a < big) (hb : b < big) : MetE l E mX6_fraction (1) 0 0 [.long (lN a), .long (lN b), .int (nI (0))] ([]) (fun r w' => r = some (.long (lN (frN a b 0))) ∧ w' = []) := by
  refine MetE.of (by decide +kernel) (Nat.le_of_ble_eq_true rfl) ?_
  refine ev_eq (lv' := [(0, .long (lN a)), (2, .long (lN b)), (4, .int (nI (0)))]) (st' := []) (w' := []) rfl rfl rfl ?_
  refine ev_b bX6_fraction_0_3 (lv' := [(0, .long (lN a)), (2, .long (lN b)), (4, .int (nI (0)))]) (st' := [.int (lg_cmp (lN a) 0)]) (w2 := []) rfl ?_
  refine ev_if_eq (tgt := 12) dX6_fraction_3 (by decide) (fun h3 => ?_) (fun h3 => ?_)
  · skip
    refine ev_b bX6_fraction_12_15 (lv' := [(0, .long (lN a)), (2, .long (lN b)), (4, .int (nI (0)))]) (st' := [.long (Int32.toInt64 ((nI (0))))]) (w2 := []) rfl ?_
    refine ev_topL (y := lN 0) (by exact nI_lN (by decide)) ?_
    exact ev_lret dX6_fraction_15 rfl (Nat.le_of_ble_eq_true rfl) (Nat.le_refl _) (Nat.le_refl _) ⟨(by rw [show frN a b 0 = 0 from if_pos (by first | exact Or.inl ((lcmp_0 ha).mp h3) | exact Or.inr ((lcmp_0 hb).mp h9))]), rfl⟩
  · skip
    refine ev_b bX6_fraction_6_9 (lv' := [(0, .long (lN a)), (2, .long (lN b)), (4, .int (nI (0)))]) (st' := [.int (lg_cmp (lN b) 0)]) (w2 := []) rfl ?_
    refine ev_if_ne (tgt := 16) dX6_fraction_9 (by decide) (fun h9 => ?_) (fun h9 => ?_)
    · skip
      have hb0 : b ≠ 0 := fun z => h9 ((lcmp_0 hb).mpr z)
      refine ev_b bX6_fraction_16_18 (lv' := [(0, .long (lN a)), (2, .long (lN b)), (4, .int (nI (0)))]) (st' := [.long (lN b), .long (lN a)]) (w2 := []) rfl ?_
      refine ev_callS (Yc := mX6_greatestDivisor) [] dX6_fraction_18 tw_811 kX6_greatestDivisor (m_X6_greatestDivisor a b ha hb) rfl (st := []) rfl (by decide) rfl (by decide) (Nat.le_of_ble_eq_true rfl) (Nat.le_refl _) (Nat.le_refl _) (fun r w' h => by obtain ⟨-, rfl⟩ := h; exact Nat.le_of_ble_eq_true rfl) ?_
      rintro _ _ ⟨rfl, rfl⟩
      refine ev_eq (lv' := [(0, .long (lN a)), (2, .long (lN b)), (4, .int (nI (0)))]) (st' := [.long (lN (Nat.gcd a b))]) (w' := []) rfl rfl rfl ?_
      refine ev_b bX6_fraction_21_25 (lv' := [(5, .long (lN (Nat.gcd a b))), (0, .long (lN a)), (2, .long (lN b)), (4, .int (nI (0)))]) (st' := [.int (nI (0))]) (w2 := []) rfl ?_
      refine ev_if_ne_n (tgt := 32) (by decide) dX6_fraction_25 (by decide) (fun h25 => (by exfalso; omega)) (fun h25 => ?_)
      refine ev_b bX6_fraction_28_39 (lv' := [(7, .long (lN a)), (5, .long (lN (Nat.gcd a b))), (0, .long (lN a)), (2, .long (lN b)), (4, .int (nI (0)))]) (st' := [.int (lg_cmp (lN (Nat.gcd a b)) 0)]) (w2 := []) rfl ?_
      refine ev_if_ne (tgt := 47) dX6_fraction_39 (by decide) (fun h39 => ?_) (fun h39 => (by exact absurd ((lcmp_0 (gcd_big hb0 hb)).mp h39) (gcd_ne hb0)))
      refine ev_b bX6_fraction_47_51 (lv' := [(7, .long (lN a)), (5, .long (lN (Nat.gcd a b))), (0, .long (lN a)), (2, .long (lN b)), (4, .int (nI (0)))]) (st' := [.long (lN (Nat.gcd a b)), .long (lN a)]) (w2 := []) rfl ?_
      refine ev_ldiv dX6_fraction_51 (by exact lN_ne (gcd_big hb0 hb) (gcd_ne hb0)) ?_
      refine ev_topL (y := lN (a / Nat.gcd a b)) (by exact lN_div ha (gcd_big hb0 hb)) ?_
      exact ev_lret dX6_fraction_52 rfl (Nat.le_of_ble_eq_true rfl) (Nat.le_refl _) (Nat.le_refl _) ⟨(by rw [← fr_m hb0 (by decide)]; rfl), rfl⟩
    · skip
      refine ev_b bX6_fraction_12_15 (lv' := [(0, .long (lN a)), (2, .long (lN b)), (4, .int (nI (0)))]) (st' := [.long (Int32.toInt64 ((nI (0))))]) (w2 := []) rfl ?_
      refine ev_topL (y := lN 0) (by exact nI_lN (by decide)) ?_
      exact ev_lret dX6_fraction_15 rfl (Nat.le_of_ble_eq_true rfl) (Nat.le_refl _) (Nat.le_refl _) ⟨(by rw [show frN a b 0 = 0 from if_pos (by first | exact Or.inl ((lcmp_0 ha).mp h3) | exact Or.inr ((lcmp_0 hb).mp h9))]), rfl⟩
theorem bX6_fraction_32_39 {l : Launch} {E : XE} : Snd l E mX6_fraction 32 39 (xs [x_lload 2, x_lstore 7, x_lload 5, x_push (.long 0), x_lcmp]) := Snd.cons (snd_lload_n (i := 2) dX6_fraction_32 rfl) (Snd.cons (snd_lstore dX6_fraction_33 (by decide)) (Snd.cons (snd_lload dX6_fraction_35) (Snd.cons (snd_lconst (v := 0) dX6_fraction_37 (by decide)) (Snd.cons (snd_lcmp dX6_fraction_38) Snd.nil))))
set_option maxHeartbeats 4000000 in
set_option maxRecDepth 100000 in
theorem m_X6_fraction_1 {l : Launch} {E : XE} (a b : Nat) (ha : a < big) (hb : b < big) : MetE l E mX6_fraction (1) 0 0 [.long (lN a), .long (lN b), .int (nI (1))] ([]) (fun r w' => r = some (.long (lN (frN a b 1))) ∧ w' = []) := by
  refine MetE.of (by decide +kernel) (Nat.le_of_ble_eq_true rfl) ?_
  refine ev_eq (lv' := [(0, .long (lN a)), (2, .long (lN b)), (4, .int (nI (1)))]) (st' := []) (w' := []) rfl rfl rfl ?_
  refine ev_b bX6_fraction_0_3 (lv' := [(0, .long (lN a)), (2, .long (lN b)), (4, .int (nI (1)))]) (st' := [.int (lg_cmp (lN a) 0)]) (w2 := []) rfl ?_
  refine ev_if_eq (tgt := 12) dX6_fraction_3 (by decide) (fun h3 => ?_) (fun h3 => ?_)
  · skip
    refine ev_b bX6_fraction_12_15 (lv' := [(0, .long (lN a)), (2, .long (lN b)), (4, .int (nI (1)))]) (st' := [.long (Int32.toInt64 ((nI (1))))]) (w2 := []) rfl ?_
    refine ev_topL (y := lN 1) (by exact nI_lN (by decide)) ?_
    exact ev_lret dX6_fraction_15 rfl (Nat.le_of_ble_eq_true rfl) (Nat.le_refl _) (Nat.le_refl _) ⟨(by rw [show frN a b 1 = 1 from if_pos (by first | exact Or.inl ((lcmp_0 ha).mp h3) | exact Or.inr ((lcmp_0 hb).mp h9))]), rfl⟩
  · skip
    refine ev_b bX6_fraction_6_9 (lv' := [(0, .long (lN a)), (2, .long (lN b)), (4, .int (nI (1)))]) (st' := [.int (lg_cmp (lN b) 0)]) (w2 := []) rfl ?_
    refine ev_if_ne (tgt := 16) dX6_fraction_9 (by decide) (fun h9 => ?_) (fun h9 => ?_)
    · skip
      have hb0 : b ≠ 0 := fun z => h9 ((lcmp_0 hb).mpr z)
      refine ev_b bX6_fraction_16_18 (lv' := [(0, .long (lN a)), (2, .long (lN b)), (4, .int (nI (1)))]) (st' := [.long (lN b), .long (lN a)]) (w2 := []) rfl ?_
      refine ev_callS (Yc := mX6_greatestDivisor) [] dX6_fraction_18 tw_811 kX6_greatestDivisor (m_X6_greatestDivisor a b ha hb) rfl (st := []) rfl (by decide) rfl (by decide) (Nat.le_of_ble_eq_true rfl) (Nat.le_refl _) (Nat.le_refl _) (fun r w' h => by obtain ⟨-, rfl⟩ := h; exact Nat.le_of_ble_eq_true rfl) ?_
      rintro _ _ ⟨rfl, rfl⟩
      refine ev_eq (lv' := [(0, .long (lN a)), (2, .long (lN b)), (4, .int (nI (1)))]) (st' := [.long (lN (Nat.gcd a b))]) (w' := []) rfl rfl rfl ?_
      refine ev_b bX6_fraction_21_25 (lv' := [(5, .long (lN (Nat.gcd a b))), (0, .long (lN a)), (2, .long (lN b)), (4, .int (nI (1)))]) (st' := [.int (nI (1))]) (w2 := []) rfl ?_
      refine ev_if_ne_n (tgt := 32) (by decide) dX6_fraction_25 (by decide) (fun h25 => ?_) (fun h25 => (by exfalso; omega))
      refine ev_b bX6_fraction_32_39 (lv' := [(7, .long (lN b)), (5, .long (lN (Nat.gcd a b))), (0, .long (lN a)), (2, .long (lN b)), (4, .int (nI (1)))]) (st' := [.int (lg_cmp (lN (Nat.gcd a b)) 0)]) (w2 := []) rfl ?_
      refine ev_if_ne (tgt := 47) dX6_fraction_39 (by decide) (fun h39 => ?_) (fun h39 => (by exact absurd ((lcmp_0 (gcd_big hb0 hb)).mp h39) (gcd_ne hb0)))
      refine ev_b bX6_fraction_47_51 (lv' := [(7, .long (lN b)), (5, .long (lN (Nat.gcd a b))), (0, .long (lN a)), (2, .long (lN b)), (4, .int (nI (1)))]) (st' := [.long (lN (Nat.gcd a b)), .long (lN b)]) (w2 := []) rfl ?_
      refine ev_ldiv dX6_fraction_51 (by exact lN_ne (gcd_big hb0 hb) (gcd_ne hb0)) ?_
      refine ev_topL (y := lN (b / Nat.gcd a b)) (by exact lN_div hb (gcd_big hb0 hb)) ?_
      exact ev_lret dX6_fraction_52 rfl (Nat.le_of_ble_eq_true rfl) (Nat.le_refl _) (Nat.le_refl _) ⟨(by rw [← fr_m hb0 (by decide)]; rfl), rfl⟩
    · skip
      refine ev_b bX6_fraction_12_15 (lv' := [(0, .long (lN a)), (2, .long (lN b)), (4, .int (nI (1)))]) (st' := [.long (Int32.toInt64 ((nI (1))))]) (w2 := []) rfl ?_
      refine ev_topL (y := lN 1) (by exact nI_lN (by decide)) ?_
      exact ev_lret dX6_fraction_15 rfl (Nat.le_of_ble_eq_true rfl) (Nat.le_refl _) (Nat.le_refl _) ⟨(by rw [show frN a b 1 = 1 from if_pos (by first | exact Or.inl ((lcmp_0 ha).mp h3) | exact Or.inr ((lcmp_0 hb).mp h9))]), rfl⟩
theorem bX6_mean_21_22 {l : Launch} {E : XE} : Snd l E mX6_mean 21 22 (xs [x_aload 0]) := Snd.cons (snd_aload_n (i := 0) dX6_mean_21 rfl) Snd.nil
theorem bX6_mean_25_30 {l : Launch} {E : XE} : Snd l E mX6_mean 25 30 (xs [x_aload 0, x_get 7 4, x_iload 1]) := Snd.cons (snd_aload_n (i := 0) dX6_mean_25 rfl) (Snd.cons (snd_get (ci := 7) (k := 4) dX6_mean_26 rfl inX6 (by decide) tw_211) (Snd.cons (snd_iload_n (i := 1) dX6_mean_29 rfl) Snd.nil))
theorem bX6_mean_33_35 {l : Launch} {E : XE} : Snd l E mX6_mean 33 35 (xs [x_push (.int (nI 31))]) := Snd.cons (snd_bipush (v := nI 31) dX6_mean_33 (by decide)) Snd.nil
theorem bX6_mean_38_39 {l : Launch} {E : XE} : Snd l E mX6_mean 38 39 (xs [x_i2l]) := Snd.cons (snd_i2l dX6_mean_38) Snd.nil
theorem bX6_mean_39_43 {l : Launch} {E : XE} : Snd l E mX6_mean 39 43 (xs [x_aload 0, x_get 7 4]) := Snd.cons (snd_aload_n (i := 0) dX6_mean_39 rfl) (Snd.cons (snd_get (ci := 7) (k := 4) dX6_mean_40 rfl inX6 (by decide) tw_211) Snd.nil)
theorem bX6_mean_49_50 {l : Launch} {E : XE} : Snd l E mX6_mean 49 50 (xs [x_i2l]) := Snd.cons (snd_i2l dX6_mean_49) Snd.nil
theorem bX6_mean_50_51 {l : Launch} {E : XE} : Snd l E mX6_mean 50 51 (xs [x_iload 2]) := Snd.cons (snd_iload_n (i := 2) dX6_mean_50 rfl) Snd.nil
set_option maxHeartbeats 4000000 in
set_option maxRecDepth 100000 in
theorem p_mean_w0_0 {l : Launch} {E : XE} (T : TopN) (S P U : SaleN) (O : OutN) (B : BillN) (Q : SeaN) (C : ScrN) (R : PrtN) (tl rf : Nat → Nat) (n : Nat) (hS : SaleOK S) (hQ : Q.fd < 2147483648) (hn : LiftsTo S n) (hnn : 0 ≤ totZ (wonZ S) 31 5 ∧ totZ (wonZ S) 31 5 ≤ 5000) (hz : cntTo (wonZ S) 5 = 0 → totZ (wonZ S) 31 5 = 0) : MetE l E mX6_mean (6) 0 0 [.ref 0, .int (nI (0)), .int (nI (0))] (compW T S P U O B Q C R tl rf) (CP T S P (C.lt) (C.sz) tl rf (some (.long (lN (frN ((totZ (wonZ S) 31 5).toNat) (cntTo (wonZ S) 5) 0))))) := by
  refine MetE.of (by decide +kernel) (Nat.le_of_ble_eq_true rfl) ?_
  have hca := hS.1
  have hpw := pow_ca hS
  have hac := ac_lt hS
  have hcl := cntTo_le (wonZ S) 5
  refine ev_eq (lv' := [(0, .ref 0), (1, .int (nI (0))), (2, .int (nI (0)))]) (st' := []) (w' := compW T S P U O B Q C R tl rf) rfl rfl rfl ?_
  refine ev_b bX6_mean_0_1 (lv' := [(0, .ref 0), (1, .int (nI (0))), (2, .int (nI (0)))]) (st' := [.int (nI (0))]) (w2 := compW T S P U O B Q C R tl rf) rfl ?_
  refine ev_callS (Yc := mX6_isHow) [] dX6_mean_1 tw_711 kX6_isHow m_X6_isHow_0 rfl (st := []) rfl (by decide) rfl (by decide) (Nat.le_of_ble_eq_true rfl) (Nat.le_refl _) (Nat.le_refl _) (fun r w' h => by obtain ⟨-, rfl⟩ := h; exact Nat.le_of_ble_eq_true rfl) ?_
  rintro _ _ ⟨rfl, rfl⟩
  refine ev_eq (lv' := [(0, .ref 0), (1, .int (nI (0))), (2, .int (nI (0)))]) (st' := [.int (nI (1))]) (w' := compW T S P U O B Q C R tl rf) rfl rfl rfl ?_
  refine ev_if_eq_n (tgt := 14) (by decide) dX6_mean_4 (by decide) (fun h4 => (by exfalso; omega)) (fun h4 => ?_)
  refine ev_b bX6_mean_7_8 (lv' := [(0, .ref 0), (1, .int (nI (0))), (2, .int (nI (0)))]) (st' := [.int (nI (0))]) (w2 := compW T S P U O B Q C R tl rf) rfl ?_
  refine ev_callS (Yc := mX6_isEither) [] dX6_mean_8 tw_667 kX6_isEither m_X6_isEither_0 rfl (st := []) rfl (by decide) rfl (by decide) (Nat.le_of_ble_eq_true rfl) (Nat.le_refl _) (Nat.le_refl _) (fun r w' h => by obtain ⟨-, rfl⟩ := h; exact Nat.le_of_ble_eq_true rfl) ?_
  rintro _ _ ⟨rfl, rfl⟩
  refine ev_eq (lv' := [(0, .ref 0), (1, .int (nI (0))), (2, .int (nI (0)))]) (st' := [.int (nI (1))]) (w' := compW T S P U O B Q C R tl rf) rfl rfl rfl ?_
  refine ev_if_ne_n (tgt := 21) (by decide) dX6_mean_11 (by decide) (fun h11 => ?_) (fun h11 => (by exfalso; omega))
  refine ev_b bX6_mean_21_22 (lv' := [(0, .ref 0), (1, .int (nI (0))), (2, .int (nI (0)))]) (st' := [.ref 0]) (w2 := compW T S P U O B Q C R tl rf) rfl ?_
  refine ev_callV (Yc := mX6_chargeAndLift) (rng 0 49) dX6_mean_22 tw_714 kX6_chargeAndLift (m_X6_chargeAndLift T S P U O B Q C R tl rf n hS hn) rfl (st := []) rfl rfl rfl (by decide) comp_hw (by decide) (Nat.le_of_ble_eq_true rfl) (Nat.le_refl _) (Nat.le_refl _) (fun r w' h => by obtain ⟨-, O', rfl, -⟩ := h; exact Nat.le_refl 49) ?_
  rintro _ _ ⟨rfl, O1, rfl, hK1⟩
  refine ev_eq (lv' := [(0, .ref 0), (1, .int (nI (0))), (2, .int (nI (0)))]) (st' := []) (w' := compW T S P U O1 ((lfB S (itS S n) n)) Q C R tl rf) rfl rfl comp_xp ?_
  refine ev_b bX6_mean_25_30 (lv' := [(0, .ref 0), (1, .int (nI (0))), (2, .int (nI (0)))]) (st' := [.int (nI (0)), .ref 30]) (w2 := compW T S P U O1 ((lfB S (itS S n) n)) Q C R tl rf) rfl ?_
  refine ev_callVN (Yc := mX0_payments) [30, 31, 32, 33, 34] dX6_mean_30 tn_754 kX0_payments (m_X0_payments_0 (lfB S (itS S n) n)) rfl (st := []) rfl rfl rfl (by decide) hw_comp__30 (by decide) (Nat.le_of_ble_eq_true rfl) (Nat.le_refl _) (Nat.le_refl _) (fun r w' h => by obtain ⟨-, rfl⟩ := h; exact Nat.le_of_ble_eq_true rfl) ?_
  rintro _ _ ⟨rfl, rfl⟩
  refine ev_eq (lv' := [(0, .ref 0), (1, .int (nI (0))), (2, .int (nI (0)))]) (st' := [.ref 31]) (w' := compW T S P U O1 ((lfB S (itS S n) n)) Q C R tl rf) rfl rfl xp_comp__30 ?_
  refine ev_b bX6_mean_33_35 (lv' := [(0, .ref 0), (1, .int (nI (0))), (2, .int (nI (0)))]) (st' := [.int (nI (31)), .ref 31]) (w2 := compW T S P U O1 ((lfB S (itS S n) n)) Q C R tl rf) rfl ?_
  refine ev_callSN (Yc := mX0_total) [31] dX6_mean_35 tn_611 kX0_total (m_X0_total (BillN.wo (lfB S (itS S n) n)) 31 (by decide)) rfl (st := []) rfl (by decide) rfl (by decide) (Nat.le_of_ble_eq_true rfl) (Nat.le_refl _) (Nat.le_refl _) (fun r w' h => by obtain ⟨-, rfl⟩ := h; exact Nat.le_of_ble_eq_true rfl) ?_
  rintro _ _ ⟨rfl, rfl⟩
  refine ev_eq (lv' := [(0, .ref 0), (1, .int (nI (0))), (2, .int (nI (0)))]) (st' := [.int (zI (totZ (wonZ S) 31 5))]) (w' := compW T S P U O1 ((lfB S (itS S n) n)) Q C R tl rf) rfl rfl rfl ?_
  refine ev_top (y := (nI ((totZ (wonZ S) 31 5).toNat))) (by rw [show totZ (wonZ S) 31 5 = (((totZ (wonZ S) 31 5).toNat : Nat) : Int) from by exact (Int.toNat_of_nonneg hnn.1).symm]; exact zI_nat _) ?_
  refine ev_b bX6_mean_38_39 (lv' := [(0, .ref 0), (1, .int (nI (0))), (2, .int (nI (0)))]) (st' := [.long (Int32.toInt64 ((nI ((totZ (wonZ S) 31 5).toNat))))]) (w2 := compW T S P U O1 ((lfB S (itS S n) n)) Q C R tl rf) rfl ?_
  refine ev_topL (y := lN ((totZ (wonZ S) 31 5).toNat)) (by exact nI_lN (by omega)) ?_
  refine ev_b bX6_mean_39_43 (lv' := [(0, .ref 0), (1, .int (nI (0))), (2, .int (nI (0)))]) (st' := [.ref 30, .long (lN ((totZ (wonZ S) 31 5).toNat))]) (w2 := compW T S P U O1 ((lfB S (itS S n) n)) Q C R tl rf) rfl ?_
  refine ev_callVN (Yc := mX0_happy) [30, 31, 32, 33, 34] dX6_mean_43 tn_818 kX0_happy (m_X0_happy (lfB S (itS S n) n) (wonZ_b hS)) rfl (st := [.long (lN ((totZ (wonZ S) 31 5).toNat))]) rfl rfl rfl (by decide) hw_comp__30 (by decide) (Nat.le_of_ble_eq_true rfl) (Nat.le_refl _) (Nat.le_refl _) (fun r w' h => by obtain ⟨-, rfl⟩ := h; exact Nat.le_of_ble_eq_true rfl) ?_
  rintro _ _ ⟨rfl, rfl⟩
  refine ev_eq (lv' := [(0, .ref 0), (1, .int (nI (0))), (2, .int (nI (0)))]) (st' := [.int (nI (hapTo (wonZ S) 5)), .long (lN ((totZ (wonZ S) 31 5).toNat))]) (w' := compW T S P U O1 ((lfB S (itS S n) n)) Q C R tl rf) rfl rfl xp_comp__30 ?_
  refine ev_callS (Yc := mJ6_bitCount_0f7a4) [] dX6_mean_46 tw_696 kJ6_bitCount_0f7a4 (m_bitCount (hapTo (wonZ S) 5) (Nat.lt_trans (hap_lt 5) (by decide))) rfl (st := [.long (lN ((totZ (wonZ S) 31 5).toNat))]) rfl (by decide) rfl (by decide) (Nat.le_of_ble_eq_true rfl) (Nat.le_refl _) (Nat.le_refl _) (fun r w' h => by obtain ⟨-, rfl⟩ := h; exact Nat.le_of_ble_eq_true rfl) ?_
  rintro _ _ ⟨rfl, rfl⟩
  refine ev_eq (lv' := [(0, .ref 0), (1, .int (nI (0))), (2, .int (nI (0)))]) (st' := [.int (nI (pop (hapTo (wonZ S) 5))), .long (lN ((totZ (wonZ S) 31 5).toNat))]) (w' := compW T S P U O1 ((lfB S (itS S n) n)) Q C R tl rf) rfl rfl rfl ?_
  refine ev_top (y := (nI (cntTo (wonZ S) 5))) (congrArg nI (show pop (hapTo (wonZ S) 5) = cntTo (wonZ S) 5 from by exact pop_hap _)) ?_
  refine ev_b bX6_mean_49_50 (lv' := [(0, .ref 0), (1, .int (nI (0))), (2, .int (nI (0)))]) (st' := [.long (Int32.toInt64 ((nI (cntTo (wonZ S) 5)))), .long (lN ((totZ (wonZ S) 31 5).toNat))]) (w2 := compW T S P U O1 ((lfB S (itS S n) n)) Q C R tl rf) rfl ?_
  refine ev_topL (y := lN (cntTo (wonZ S) 5)) (by exact nI_lN (by omega)) ?_
  refine ev_b bX6_mean_50_51 (lv' := [(0, .ref 0), (1, .int (nI (0))), (2, .int (nI (0)))]) (st' := [.int (nI (0)), .long (lN (cntTo (wonZ S) 5)), .long (lN ((totZ (wonZ S) 31 5).toNat))]) (w2 := compW T S P U O1 ((lfB S (itS S n) n)) Q C R tl rf) rfl ?_
  refine ev_callS (Yc := mX6_fraction) [] dX6_mean_51 tw_808 kX6_fraction (m_X6_fraction_0 ((totZ (wonZ S) 31 5).toNat) (cntTo (wonZ S) 5) (big_lt (by omega)) (big_lt (by omega))) rfl (st := []) rfl (by decide) rfl (by decide) (Nat.le_of_ble_eq_true rfl) (Nat.le_refl _) (Nat.le_refl _) (fun r w' h => by obtain ⟨-, rfl⟩ := h; exact Nat.le_of_ble_eq_true rfl) ?_
  rintro _ _ ⟨rfl, rfl⟩
  refine ev_eq (lv' := [(0, .ref 0), (1, .int (nI (0))), (2, .int (nI (0)))]) (st' := [.long (lN (frN ((totZ (wonZ S) 31 5).toNat) (cntTo (wonZ S) 5) 0))]) (w' := compW T S P U O1 ((lfB S (itS S n) n)) Q C R tl rf) rfl rfl rfl ?_
  exact ev_lret dX6_mean_54 rfl (Nat.le_refl 49) (Nat.le_refl _) (Nat.le_refl _) ⟨rfl, _, _, _, _, _, _, rfl, hQ, rfl, rfl⟩
set_option maxHeartbeats 4000000 in
set_option maxRecDepth 100000 in
theorem p_mean_w0_1 {l : Launch} {E : XE} (T : TopN) (S P U : SaleN) (O : OutN) (B : BillN) (Q : SeaN) (C : ScrN) (R : PrtN) (tl rf : Nat → Nat) (n : Nat) (hS : SaleOK S) (hQ : Q.fd < 2147483648) (hn : LiftsTo S n) (hnn : 0 ≤ totZ (wonZ S) 31 5 ∧ totZ (wonZ S) 31 5 ≤ 5000) (hz : cntTo (wonZ S) 5 = 0 → totZ (wonZ S) 31 5 = 0) : MetE l E mX6_mean (6) 0 0 [.ref 0, .int (nI (0)), .int (nI (1))] (compW T S P U O B Q C R tl rf) (CP T S P (C.lt) (C.sz) tl rf (some (.long (lN (frN ((totZ (wonZ S) 31 5).toNat) (cntTo (wonZ S) 5) 1))))) := by
  refine MetE.of (by decide +kernel) (Nat.le_of_ble_eq_true rfl) ?_
  have hca := hS.1
  have hpw := pow_ca hS
  have hac := ac_lt hS
  have hcl := cntTo_le (wonZ S) 5
  refine ev_eq (lv' := [(0, .ref 0), (1, .int (nI (0))), (2, .int (nI (1)))]) (st' := []) (w' := compW T S P U O B Q C R tl rf) rfl rfl rfl ?_
  refine ev_b bX6_mean_0_1 (lv' := [(0, .ref 0), (1, .int (nI (0))), (2, .int (nI (1)))]) (st' := [.int (nI (0))]) (w2 := compW T S P U O B Q C R tl rf) rfl ?_
  refine ev_callS (Yc := mX6_isHow) [] dX6_mean_1 tw_711 kX6_isHow m_X6_isHow_0 rfl (st := []) rfl (by decide) rfl (by decide) (Nat.le_of_ble_eq_true rfl) (Nat.le_refl _) (Nat.le_refl _) (fun r w' h => by obtain ⟨-, rfl⟩ := h; exact Nat.le_of_ble_eq_true rfl) ?_
  rintro _ _ ⟨rfl, rfl⟩
  refine ev_eq (lv' := [(0, .ref 0), (1, .int (nI (0))), (2, .int (nI (1)))]) (st' := [.int (nI (1))]) (w' := compW T S P U O B Q C R tl rf) rfl rfl rfl ?_
  refine ev_if_eq_n (tgt := 14) (by decide) dX6_mean_4 (by decide) (fun h4 => (by exfalso; omega)) (fun h4 => ?_)
  refine ev_b bX6_mean_7_8 (lv' := [(0, .ref 0), (1, .int (nI (0))), (2, .int (nI (1)))]) (st' := [.int (nI (1))]) (w2 := compW T S P U O B Q C R tl rf) rfl ?_
  refine ev_callS (Yc := mX6_isEither) [] dX6_mean_8 tw_667 kX6_isEither m_X6_isEither_1 rfl (st := []) rfl (by decide) rfl (by decide) (Nat.le_of_ble_eq_true rfl) (Nat.le_refl _) (Nat.le_refl _) (fun r w' h => by obtain ⟨-, rfl⟩ := h; exact Nat.le_of_ble_eq_true rfl) ?_
  rintro _ _ ⟨rfl, rfl⟩
  refine ev_eq (lv' := [(0, .ref 0), (1, .int (nI (0))), (2, .int (nI (1)))]) (st' := [.int (nI (1))]) (w' := compW T S P U O B Q C R tl rf) rfl rfl rfl ?_
  refine ev_if_ne_n (tgt := 21) (by decide) dX6_mean_11 (by decide) (fun h11 => ?_) (fun h11 => (by exfalso; omega))
  refine ev_b bX6_mean_21_22 (lv' := [(0, .ref 0), (1, .int (nI (0))), (2, .int (nI (1)))]) (st' := [.ref 0]) (w2 := compW T S P U O B Q C R tl rf) rfl ?_
  refine ev_callV (Yc := mX6_chargeAndLift) (rng 0 49) dX6_mean_22 tw_714 kX6_chargeAndLift (m_X6_chargeAndLift T S P U O B Q C R tl rf n hS hn) rfl (st := []) rfl rfl rfl (by decide) comp_hw (by decide) (Nat.le_of_ble_eq_true rfl) (Nat.le_refl _) (Nat.le_refl _) (fun r w' h => by obtain ⟨-, O', rfl, -⟩ := h; exact Nat.le_refl 49) ?_
  rintro _ _ ⟨rfl, O1, rfl, hK1⟩
  refine ev_eq (lv' := [(0, .ref 0), (1, .int (nI (0))), (2, .int (nI (1)))]) (st' := []) (w' := compW T S P U O1 ((lfB S (itS S n) n)) Q C R tl rf) rfl rfl comp_xp ?_
  refine ev_b bX6_mean_25_30 (lv' := [(0, .ref 0), (1, .int (nI (0))), (2, .int (nI (1)))]) (st' := [.int (nI (0)), .ref 30]) (w2 := compW T S P U O1 ((lfB S (itS S n) n)) Q C R tl rf) rfl ?_
  refine ev_callVN (Yc := mX0_payments) [30, 31, 32, 33, 34] dX6_mean_30 tn_754 kX0_payments (m_X0_payments_0 (lfB S (itS S n) n)) rfl (st := []) rfl rfl rfl (by decide) hw_comp__30 (by decide) (Nat.le_of_ble_eq_true rfl) (Nat.le_refl _) (Nat.le_refl _) (fun r w' h => by obtain ⟨-, rfl⟩ := h; exact Nat.le_of_ble_eq_true rfl) ?_
  rintro _ _ ⟨rfl, rfl⟩
  refine ev_eq (lv' := [(0, .ref 0), (1, .int (nI (0))), (2, .int (nI (1)))]) (st' := [.ref 31]) (w' := compW T S P U O1 ((lfB S (itS S n) n)) Q C R tl rf) rfl rfl xp_comp__30 ?_
  refine ev_b bX6_mean_33_35 (lv' := [(0, .ref 0), (1, .int (nI (0))), (2, .int (nI (1)))]) (st' := [.int (nI (31)), .ref 31]) (w2 := compW T S P U O1 ((lfB S (itS S n) n)) Q C R tl rf) rfl ?_
  refine ev_callSN (Yc := mX0_total) [31] dX6_mean_35 tn_611 kX0_total (m_X0_total (BillN.wo (lfB S (itS S n) n)) 31 (by decide)) rfl (st := []) rfl (by decide) rfl (by decide) (Nat.le_of_ble_eq_true rfl) (Nat.le_refl _) (Nat.le_refl _) (fun r w' h => by obtain ⟨-, rfl⟩ := h; exact Nat.le_of_ble_eq_true rfl) ?_
  rintro _ _ ⟨rfl, rfl⟩
  refine ev_eq (lv' := [(0, .ref 0), (1, .int (nI (0))), (2, .int (nI (1)))]) (st' := [.int (zI (totZ (wonZ S) 31 5))]) (w' := compW T S P U O1 ((lfB S (itS S n) n)) Q C R tl rf) rfl rfl rfl ?_
  refine ev_top (y := (nI ((totZ (wonZ S) 31 5).toNat))) (by rw [show totZ (wonZ S) 31 5 = (((totZ (wonZ S) 31 5).toNat : Nat) : Int) from by exact (Int.toNat_of_nonneg hnn.1).symm]; exact zI_nat _) ?_
  refine ev_b bX6_mean_38_39 (lv' := [(0, .ref 0), (1, .int (nI (0))), (2, .int (nI (1)))]) (st' := [.long (Int32.toInt64 ((nI ((totZ (wonZ S) 31 5).toNat))))]) (w2 := compW T S P U O1 ((lfB S (itS S n) n)) Q C R tl rf) rfl ?_
  refine ev_topL (y := lN ((totZ (wonZ S) 31 5).toNat)) (by exact nI_lN (by omega)) ?_
  refine ev_b bX6_mean_39_43 (lv' := [(0, .ref 0), (1, .int (nI (0))), (2, .int (nI (1)))]) (st' := [.ref 30, .long (lN ((totZ (wonZ S) 31 5).toNat))]) (w2 := compW T S P U O1 ((lfB S (itS S n) n)) Q C R tl rf) rfl ?_
  refine ev_callVN (Yc := mX0_happy) [30, 31, 32, 33, 34] dX6_mean_43 tn_818 kX0_happy (m_X0_happy (lfB S (itS S n) n) (wonZ_b hS)) rfl (st := [.long (lN ((totZ (wonZ S) 31 5).toNat))]) rfl rfl rfl (by decide) hw_comp__30 (by decide) (Nat.le_of_ble_eq_true rfl) (Nat.le_refl _) (Nat.le_refl _) (fun r w' h => by obtain ⟨-, rfl⟩ := h; exact Nat.le_of_ble_eq_true rfl) ?_
  rintro _ _ ⟨rfl, rfl⟩
  refine ev_eq (lv' := [(0, .ref 0), (1, .int (nI (0))), (2, .int (nI (1)))]) (st' := [.int (nI (hapTo (wonZ S) 5)), .long (lN ((totZ (wonZ S) 31 5).toNat))]) (w' := compW T S P U O1 ((lfB S (itS S n) n)) Q C R tl rf) rfl rfl xp_comp__30 ?_
  refine ev_callS (Yc := mJ6_bitCount_0f7a4) [] dX6_mean_46 tw_696 kJ6_bitCount_0f7a4 (m_bitCount (hapTo (wonZ S) 5) (Nat.lt_trans (hap_lt 5) (by decide))) rfl (st := [.long (lN ((totZ (wonZ S) 31 5).toNat))]) rfl (by decide) rfl (by decide) (Nat.le_of_ble_eq_true rfl) (Nat.le_refl _) (Nat.le_refl _) (fun r w' h => by obtain ⟨-, rfl⟩ := h; exact Nat.le_of_ble_eq_true rfl) ?_
  rintro _ _ ⟨rfl, rfl⟩
  refine ev_eq (lv' := [(0, .ref 0), (1, .int (nI (0))), (2, .int (nI (1)))]) (st' := [.int (nI (pop (hapTo (wonZ S) 5))), .long (lN ((totZ (wonZ S) 31 5).toNat))]) (w' := compW T S P U O1 ((lfB S (itS S n) n)) Q C R tl rf) rfl rfl rfl ?_
  refine ev_top (y := (nI (cntTo (wonZ S) 5))) (congrArg nI (show pop (hapTo (wonZ S) 5) = cntTo (wonZ S) 5 from by exact pop_hap _)) ?_
  refine ev_b bX6_mean_49_50 (lv' := [(0, .ref 0), (1, .int (nI (0))), (2, .int (nI (1)))]) (st' := [.long (Int32.toInt64 ((nI (cntTo (wonZ S) 5)))), .long (lN ((totZ (wonZ S) 31 5).toNat))]) (w2 := compW T S P U O1 ((lfB S (itS S n) n)) Q C R tl rf) rfl ?_
  refine ev_topL (y := lN (cntTo (wonZ S) 5)) (by exact nI_lN (by omega)) ?_
  refine ev_b bX6_mean_50_51 (lv' := [(0, .ref 0), (1, .int (nI (0))), (2, .int (nI (1)))]) (st' := [.int (nI (1)), .long (lN (cntTo (wonZ S) 5)), .long (lN ((totZ (wonZ S) 31 5).toNat))]) (w2 := compW T S P U O1 ((lfB S (itS S n) n)) Q C R tl rf) rfl ?_
  refine ev_callS (Yc := mX6_fraction) [] dX6_mean_51 tw_808 kX6_fraction (m_X6_fraction_1 ((totZ (wonZ S) 31 5).toNat) (cntTo (wonZ S) 5) (big_lt (by omega)) (big_lt (by omega))) rfl (st := []) rfl (by decide) rfl (by decide) (Nat.le_of_ble_eq_true rfl) (Nat.le_refl _) (Nat.le_refl _) (fun r w' h => by obtain ⟨-, rfl⟩ := h; exact Nat.le_of_ble_eq_true rfl) ?_
  rintro _ _ ⟨rfl, rfl⟩
  refine ev_eq (lv' := [(0, .ref 0), (1, .int (nI (0))), (2, .int (nI (1)))]) (st' := [.long (lN (frN ((totZ (wonZ S) 31 5).toNat) (cntTo (wonZ S) 5) 1))]) (w' := compW T S P U O1 ((lfB S (itS S n) n)) Q C R tl rf) rfl rfl rfl ?_
  exact ev_lret dX6_mean_54 rfl (Nat.le_refl 49) (Nat.le_refl _) (Nat.le_refl _) ⟨rfl, _, _, _, _, _, _, rfl, hQ, rfl, rfl⟩
set_option maxHeartbeats 4000000 in
set_option maxRecDepth 100000 in
theorem p_mean_w1_0 {l : Launch} {E : XE} (T : TopN) (S P U : SaleN) (O : OutN) (B : BillN) (Q : SeaN) (C : ScrN) (R : PrtN) (tl rf : Nat → Nat) (n : Nat) (hS : SaleOK S) (hQ : Q.fd < 2147483648) (hn : LiftsTo S n) (hnn : 0 ≤ totZ (paidZ S) 31 5 ∧ totZ (paidZ S) 31 5 ≤ 5000) (hz : cntTo (wonZ S) 5 = 0 → totZ (paidZ S) 31 5 = 0) : MetE l E mX6_mean (6) 0 0 [.ref 0, .int (nI (1)), .int (nI (0))] (compW T S P U O B Q C R tl rf) (CP T S P (C.lt) (C.sz) tl rf (some (.long (lN (frN ((totZ (paidZ S) 31 5).toNat) (cntTo (wonZ S) 5) 0))))) := by
  refine MetE.of (by decide +kernel) (Nat.le_of_ble_eq_true rfl) ?_
  have hca := hS.1
  have hpw := pow_ca hS
  have hac := ac_lt hS
  have hcl := cntTo_le (wonZ S) 5
  refine ev_eq (lv' := [(0, .ref 0), (1, .int (nI (1))), (2, .int (nI (0)))]) (st' := []) (w' := compW T S P U O B Q C R tl rf) rfl rfl rfl ?_
  refine ev_b bX6_mean_0_1 (lv' := [(0, .ref 0), (1, .int (nI (1))), (2, .int (nI (0)))]) (st' := [.int (nI (1))]) (w2 := compW T S P U O B Q C R tl rf) rfl ?_
  refine ev_callS (Yc := mX6_isHow) [] dX6_mean_1 tw_711 kX6_isHow m_X6_isHow_1 rfl (st := []) rfl (by decide) rfl (by decide) (Nat.le_of_ble_eq_true rfl) (Nat.le_refl _) (Nat.le_refl _) (fun r w' h => by obtain ⟨-, rfl⟩ := h; exact Nat.le_of_ble_eq_true rfl) ?_
  rintro _ _ ⟨rfl, rfl⟩
  refine ev_eq (lv' := [(0, .ref 0), (1, .int (nI (1))), (2, .int (nI (0)))]) (st' := [.int (nI (1))]) (w' := compW T S P U O B Q C R tl rf) rfl rfl rfl ?_
  refine ev_if_eq_n (tgt := 14) (by decide) dX6_mean_4 (by decide) (fun h4 => (by exfalso; omega)) (fun h4 => ?_)
  refine ev_b bX6_mean_7_8 (lv' := [(0, .ref 0), (1, .int (nI (1))), (2, .int (nI (0)))]) (st' := [.int (nI (0))]) (w2 := compW T S P U O B Q C R tl rf) rfl ?_
  refine ev_callS (Yc := mX6_isEither) [] dX6_mean_8 tw_667 kX6_isEither m_X6_isEither_0 rfl (st := []) rfl (by decide) rfl (by decide) (Nat.le_of_ble_eq_true rfl) (Nat.le_refl _) (Nat.le_refl _) (fun r w' h => by obtain ⟨-, rfl⟩ := h; exact Nat.le_of_ble_eq_true rfl) ?_
  rintro _ _ ⟨rfl, rfl⟩
  refine ev_eq (lv' := [(0, .ref 0), (1, .int (nI (1))), (2, .int (nI (0)))]) (st' := [.int (nI (1))]) (w' := compW T S P U O B Q C R tl rf) rfl rfl rfl ?_
  refine ev_if_ne_n (tgt := 21) (by decide) dX6_mean_11 (by decide) (fun h11 => ?_) (fun h11 => (by exfalso; omega))
  refine ev_b bX6_mean_21_22 (lv' := [(0, .ref 0), (1, .int (nI (1))), (2, .int (nI (0)))]) (st' := [.ref 0]) (w2 := compW T S P U O B Q C R tl rf) rfl ?_
  refine ev_callV (Yc := mX6_chargeAndLift) (rng 0 49) dX6_mean_22 tw_714 kX6_chargeAndLift (m_X6_chargeAndLift T S P U O B Q C R tl rf n hS hn) rfl (st := []) rfl rfl rfl (by decide) comp_hw (by decide) (Nat.le_of_ble_eq_true rfl) (Nat.le_refl _) (Nat.le_refl _) (fun r w' h => by obtain ⟨-, O', rfl, -⟩ := h; exact Nat.le_refl 49) ?_
  rintro _ _ ⟨rfl, O1, rfl, hK1⟩
  refine ev_eq (lv' := [(0, .ref 0), (1, .int (nI (1))), (2, .int (nI (0)))]) (st' := []) (w' := compW T S P U O1 ((lfB S (itS S n) n)) Q C R tl rf) rfl rfl comp_xp ?_
  refine ev_b bX6_mean_25_30 (lv' := [(0, .ref 0), (1, .int (nI (1))), (2, .int (nI (0)))]) (st' := [.int (nI (1)), .ref 30]) (w2 := compW T S P U O1 ((lfB S (itS S n) n)) Q C R tl rf) rfl ?_
  refine ev_callVN (Yc := mX0_payments) [30, 31, 32, 33, 34] dX6_mean_30 tn_754 kX0_payments (m_X0_payments_1 (lfB S (itS S n) n)) rfl (st := []) rfl rfl rfl (by decide) hw_comp__30 (by decide) (Nat.le_of_ble_eq_true rfl) (Nat.le_refl _) (Nat.le_refl _) (fun r w' h => by obtain ⟨-, rfl⟩ := h; exact Nat.le_of_ble_eq_true rfl) ?_
  rintro _ _ ⟨rfl, rfl⟩
  refine ev_eq (lv' := [(0, .ref 0), (1, .int (nI (1))), (2, .int (nI (0)))]) (st' := [.ref 32]) (w' := compW T S P U O1 ((lfB S (itS S n) n)) Q C R tl rf) rfl rfl xp_comp__30 ?_
  refine ev_b bX6_mean_33_35 (lv' := [(0, .ref 0), (1, .int (nI (1))), (2, .int (nI (0)))]) (st' := [.int (nI (31)), .ref 32]) (w2 := compW T S P U O1 ((lfB S (itS S n) n)) Q C R tl rf) rfl ?_
  refine ev_callSN (Yc := mX0_total) [32] dX6_mean_35 tn_611 kX0_total (m_X0_total (BillN.ha (lfB S (itS S n) n)) 31 (by decide)) rfl (st := []) rfl (by decide) rfl (by decide) (Nat.le_of_ble_eq_true rfl) (Nat.le_refl _) (Nat.le_refl _) (fun r w' h => by obtain ⟨-, rfl⟩ := h; exact Nat.le_of_ble_eq_true rfl) ?_
  rintro _ _ ⟨rfl, rfl⟩
  refine ev_eq (lv' := [(0, .ref 0), (1, .int (nI (1))), (2, .int (nI (0)))]) (st' := [.int (zI (totZ (paidZ S) 31 5))]) (w' := compW T S P U O1 ((lfB S (itS S n) n)) Q C R tl rf) rfl rfl rfl ?_
  refine ev_top (y := (nI ((totZ (paidZ S) 31 5).toNat))) (by rw [show totZ (paidZ S) 31 5 = (((totZ (paidZ S) 31 5).toNat : Nat) : Int) from by exact (Int.toNat_of_nonneg hnn.1).symm]; exact zI_nat _) ?_
  refine ev_b bX6_mean_38_39 (lv' := [(0, .ref 0), (1, .int (nI (1))), (2, .int (nI (0)))]) (st' := [.long (Int32.toInt64 ((nI ((totZ (paidZ S) 31 5).toNat))))]) (w2 := compW T S P U O1 ((lfB S (itS S n) n)) Q C R tl rf) rfl ?_
  refine ev_topL (y := lN ((totZ (paidZ S) 31 5).toNat)) (by exact nI_lN (by omega)) ?_
  refine ev_b bX6_mean_39_43 (lv' := [(0, .ref 0), (1, .int (nI (1))), (2, .int (nI (0)))]) (st' := [.ref 30, .long (lN ((totZ (paidZ S) 31 5).toNat))]) (w2 := compW T S P U O1 ((lfB S (itS S n) n)) Q C R tl rf) rfl ?_
  refine ev_callVN (Yc := mX0_happy) [30, 31, 32, 33, 34] dX6_mean_43 tn_818 kX0_happy (m_X0_happy (lfB S (itS S n) n) (wonZ_b hS)) rfl (st := [.long (lN ((totZ (paidZ S) 31 5).toNat))]) rfl rfl rfl (by decide) hw_comp__30 (by decide) (Nat.le_of_ble_eq_true rfl) (Nat.le_refl _) (Nat.le_refl _) (fun r w' h => by obtain ⟨-, rfl⟩ := h; exact Nat.le_of_ble_eq_true rfl) ?_
  rintro _ _ ⟨rfl, rfl⟩
  refine ev_eq (lv' := [(0, .ref 0), (1, .int (nI (1))), (2, .int (nI (0)))]) (st' := [.int (nI (hapTo (wonZ S) 5)), .long (lN ((totZ (paidZ S) 31 5).toNat))]) (w' := compW T S P U O1 ((lfB S (itS S n) n)) Q C R tl rf) rfl rfl xp_comp__30 ?_
  refine ev_callS (Yc := mJ6_bitCount_0f7a4) [] dX6_mean_46 tw_696 kJ6_bitCount_0f7a4 (m_bitCount (hapTo (wonZ S) 5) (Nat.lt_trans (hap_lt 5) (by decide))) rfl (st := [.long (lN ((totZ (paidZ S) 31 5).toNat))]) rfl (by decide) rfl (by decide) (Nat.le_of_ble_eq_true rfl) (Nat.le_refl _) (Nat.le_refl _) (fun r w' h => by obtain ⟨-, rfl⟩ := h; exact Nat.le_of_ble_eq_true rfl) ?_
  rintro _ _ ⟨rfl, rfl⟩
  refine ev_eq (lv' := [(0, .ref 0), (1, .int (nI (1))), (2, .int (nI (0)))]) (st' := [.int (nI (pop (hapTo (wonZ S) 5))), .long (lN ((totZ (paidZ S) 31 5).toNat))]) (w' := compW T S P U O1 ((lfB S (itS S n) n)) Q C R tl rf) rfl rfl rfl ?_
  refine ev_top (y := (nI (cntTo (wonZ S) 5))) (congrArg nI (show pop (hapTo (wonZ S) 5) = cntTo (wonZ S) 5 from by exact pop_hap _)) ?_
  refine ev_b bX6_mean_49_50 (lv' := [(0, .ref 0), (1, .int (nI (1))), (2, .int (nI (0)))]) (st' := [.long (Int32.toInt64 ((nI (cntTo (wonZ S) 5)))), .long (lN ((totZ (paidZ S) 31 5).toNat))]) (w2 := compW T S P U O1 ((lfB S (itS S n) n)) Q C R tl rf) rfl ?_
  refine ev_topL (y := lN (cntTo (wonZ S) 5)) (by exact nI_lN (by omega)) ?_
  refine ev_b bX6_mean_50_51 (lv' := [(0, .ref 0), (1, .int (nI (1))), (2, .int (nI (0)))]) (st' := [.int (nI (0)), .long (lN (cntTo (wonZ S) 5)), .long (lN ((totZ (paidZ S) 31 5).toNat))]) (w2 := compW T S P U O1 ((lfB S (itS S n) n)) Q C R tl rf) rfl ?_
  refine ev_callS (Yc := mX6_fraction) [] dX6_mean_51 tw_808 kX6_fraction (m_X6_fraction_0 ((totZ (paidZ S) 31 5).toNat) (cntTo (wonZ S) 5) (big_lt (by omega)) (big_lt (by omega))) rfl (st := []) rfl (by decide) rfl (by decide) (Nat.le_of_ble_eq_true rfl) (Nat.le_refl _) (Nat.le_refl _) (fun r w' h => by obtain ⟨-, rfl⟩ := h; exact Nat.le_of_ble_eq_true rfl) ?_
  rintro _ _ ⟨rfl, rfl⟩
  refine ev_eq (lv' := [(0, .ref 0), (1, .int (nI (1))), (2, .int (nI (0)))]) (st' := [.long (lN (frN ((totZ (paidZ S) 31 5).toNat) (cntTo (wonZ S) 5) 0))]) (w' := compW T S P U O1 ((lfB S (itS S n) n)) Q C R tl rf) rfl rfl rfl ?_
  exact ev_lret dX6_mean_54 rfl (Nat.le_refl 49) (Nat.le_refl _) (Nat.le_refl _) ⟨rfl, _, _, _, _, _, _, rfl, hQ, rfl, rfl⟩
set_option maxHeartbeats 4000000 in
set_option maxRecDepth 100000 in
theorem p_mean_w1_1 {l : Launch} {E : XE} (T : TopN) (S P U : SaleN) (O : OutN) (B : BillN) (Q : SeaN) (C : ScrN) (R : PrtN) (tl rf : Nat → Nat) (n : Nat) (hS : SaleOK S) (hQ : Q.fd < 2147483648) (hn : LiftsTo S n) (hnn : 0 ≤ totZ (paidZ S) 31 5 ∧ totZ (paidZ S) 31 5 ≤ 5000) (hz : cntTo (wonZ S) 5 = 0 → totZ (paidZ S) 31 5 = 0) : MetE l E mX6_mean (6) 0 0 [.ref 0, .int (nI (1)), .int (nI (1))] (compW T S P U O B Q C R tl rf) (CP T S P (C.lt) (C.sz) tl rf (some (.long (lN (frN ((totZ (paidZ S) 31 5).toNat) (cntTo (wonZ S) 5) 1))))) := by
  refine MetE.of (by decide +kernel) (Nat.le_of_ble_eq_true rfl) ?_
  have hca := hS.1
  have hpw := pow_ca hS
  have hac := ac_lt hS
  have hcl := cntTo_le (wonZ S) 5
  refine ev_eq (lv' := [(0, .ref 0), (1, .int (nI (1))), (2, .int (nI (1)))]) (st' := []) (w' := compW T S P U O B Q C R tl rf) rfl rfl rfl ?_
  refine ev_b bX6_mean_0_1 (lv' := [(0, .ref 0), (1, .int (nI (1))), (2, .int (nI (1)))]) (st' := [.int (nI (1))]) (w2 := compW T S P U O B Q C R tl rf) rfl ?_
  refine ev_callS (Yc := mX6_isHow) [] dX6_mean_1 tw_711 kX6_isHow m_X6_isHow_1 rfl (st := []) rfl (by decide) rfl (by decide) (Nat.le_of_ble_eq_true rfl) (Nat.le_refl _) (Nat.le_refl _) (fun r w' h => by obtain ⟨-, rfl⟩ := h; exact Nat.le_of_ble_eq_true rfl) ?_
  rintro _ _ ⟨rfl, rfl⟩
  refine ev_eq (lv' := [(0, .ref 0), (1, .int (nI (1))), (2, .int (nI (1)))]) (st' := [.int (nI (1))]) (w' := compW T S P U O B Q C R tl rf) rfl rfl rfl ?_
  refine ev_if_eq_n (tgt := 14) (by decide) dX6_mean_4 (by decide) (fun h4 => (by exfalso; omega)) (fun h4 => ?_)
  refine ev_b bX6_mean_7_8 (lv' := [(0, .ref 0), (1, .int (nI (1))), (2, .int (nI (1)))]) (st' := [.int (nI (1))]) (w2 := compW T S P U O B Q C R tl rf) rfl ?_
  refine ev_callS (Yc := mX6_isEither) [] dX6_mean_8 tw_667 kX6_isEither m_X6_isEither_1 rfl (st := []) rfl (by decide) rfl (by decide) (Nat.le_of_ble_eq_true rfl) (Nat.le_refl _) (Nat.le_refl _) (fun r w' h => by obtain ⟨-, rfl⟩ := h; exact Nat.le_of_ble_eq_true rfl) ?_
  rintro _ _ ⟨rfl, rfl⟩
  refine ev_eq (lv' := [(0, .ref 0), (1, .int (nI (1))), (2, .int (nI (1)))]) (st' := [.int (nI (1))]) (w' := compW T S P U O B Q C R tl rf) rfl rfl rfl ?_
  refine ev_if_ne_n (tgt := 21) (by decide) dX6_mean_11 (by decide) (fun h11 => ?_) (fun h11 => (by exfalso; omega))
  refine ev_b bX6_mean_21_22 (lv' := [(0, .ref 0), (1, .int (nI (1))), (2, .int (nI (1)))]) (st' := [.ref 0]) (w2 := compW T S P U O B Q C R tl rf) rfl ?_
  refine ev_callV (Yc := mX6_chargeAndLift) (rng 0 49) dX6_mean_22 tw_714 kX6_chargeAndLift (m_X6_chargeAndLift T S P U O B Q C R tl rf n hS hn) rfl (st := []) rfl rfl rfl (by decide) comp_hw (by decide) (Nat.le_of_ble_eq_true rfl) (Nat.le_refl _) (Nat.le_refl _) (fun r w' h => by obtain ⟨-, O', rfl, -⟩ := h; exact Nat.le_refl 49) ?_
  rintro _ _ ⟨rfl, O1, rfl, hK1⟩
  refine ev_eq (lv' := [(0, .ref 0), (1, .int (nI (1))), (2, .int (nI (1)))]) (st' := []) (w' := compW T S P U O1 ((lfB S (itS S n) n)) Q C R tl rf) rfl rfl comp_xp ?_
  refine ev_b bX6_mean_25_30 (lv' := [(0, .ref 0), (1, .int (nI (1))), (2, .int (nI (1)))]) (st' := [.int (nI (1)), .ref 30]) (w2 := compW T S P U O1 ((lfB S (itS S n) n)) Q C R tl rf) rfl ?_
  refine ev_callVN (Yc := mX0_payments) [30, 31, 32, 33, 34] dX6_mean_30 tn_754 kX0_payments (m_X0_payments_1 (lfB S (itS S n) n)) rfl (st := []) rfl rfl rfl (by decide) hw_comp__30 (by decide) (Nat.le_of_ble_eq_true rfl) (Nat.le_refl _) (Nat.le_refl _) (fun r w' h => by obtain ⟨-, rfl⟩ := h; exact Nat.le_of_ble_eq_true rfl) ?_
  rintro _ _ ⟨rfl, rfl⟩
  refine ev_eq (lv' := [(0, .ref 0), (1, .int (nI (1))), (2, .int (nI (1)))]) (st' := [.ref 32]) (w' := compW T S P U O1 ((lfB S (itS S n) n)) Q C R tl rf) rfl rfl xp_comp__30 ?_
  refine ev_b bX6_mean_33_35 (lv' := [(0, .ref 0), (1, .int (nI (1))), (2, .int (nI (1)))]) (st' := [.int (nI (31)), .ref 32]) (w2 := compW T S P U O1 ((lfB S (itS S n) n)) Q C R tl rf) rfl ?_
  refine ev_callSN (Yc := mX0_total) [32] dX6_mean_35 tn_611 kX0_total (m_X0_total (BillN.ha (lfB S (itS S n) n)) 31 (by decide)) rfl (st := []) rfl (by decide) rfl (by decide) (Nat.le_of_ble_eq_true rfl) (Nat.le_refl _) (Nat.le_refl _) (fun r w' h => by obtain ⟨-, rfl⟩ := h; exact Nat.le_of_ble_eq_true rfl) ?_
  rintro _ _ ⟨rfl, rfl⟩
  refine ev_eq (lv' := [(0, .ref 0), (1, .int (nI (1))), (2, .int (nI (1)))]) (st' := [.int (zI (totZ (paidZ S) 31 5))]) (w' := compW T S P U O1 ((lfB S (itS S n) n)) Q C R tl rf) rfl rfl rfl ?_
  refine ev_top (y := (nI ((totZ (paidZ S) 31 5).toNat))) (by rw [show totZ (paidZ S) 31 5 = (((totZ (paidZ S) 31 5).toNat : Nat) : Int) from by exact (Int.toNat_of_nonneg hnn.1).symm]; exact zI_nat _) ?_
  refine ev_b bX6_mean_38_39 (lv' := [(0, .ref 0), (1, .int (nI (1))), (2, .int (nI (1)))]) (st' := [.long (Int32.toInt64 ((nI ((totZ (paidZ S) 31 5).toNat))))]) (w2 := compW T S P U O1 ((lfB S (itS S n) n)) Q C R tl rf) rfl ?_
  refine ev_topL (y := lN ((totZ (paidZ S) 31 5).toNat)) (by exact nI_lN (by omega)) ?_
  refine ev_b bX6_mean_39_43 (lv' := [(0, .ref 0), (1, .int (nI (1))), (2, .int (nI (1)))]) (st' := [.ref 30, .long (lN ((totZ (paidZ S) 31 5).toNat))]) (w2 := compW T S P U O1 ((lfB S (itS S n) n)) Q C R tl rf) rfl ?_
  refine ev_callVN (Yc := mX0_happy) [30, 31, 32, 33, 34] dX6_mean_43 tn_818 kX0_happy (m_X0_happy (lfB S (itS S n) n) (wonZ_b hS)) rfl (st := [.long (lN ((totZ (paidZ S) 31 5).toNat))]) rfl rfl rfl (by decide) hw_comp__30 (by decide) (Nat.le_of_ble_eq_true rfl) (Nat.le_refl _) (Nat.le_refl _) (fun r w' h => by obtain ⟨-, rfl⟩ := h; exact Nat.le_of_ble_eq_true rfl) ?_
  rintro _ _ ⟨rfl, rfl⟩
  refine ev_eq (lv' := [(0, .ref 0), (1, .int (nI (1))), (2, .int (nI (1)))]) (st' := [.int (nI (hapTo (wonZ S) 5)), .long (lN ((totZ (paidZ S) 31 5).toNat))]) (w' := compW T S P U O1 ((lfB S (itS S n) n)) Q C R tl rf) rfl rfl xp_comp__30 ?_
  refine ev_callS (Yc := mJ6_bitCount_0f7a4) [] dX6_mean_46 tw_696 kJ6_bitCount_0f7a4 (m_bitCount (hapTo (wonZ S) 5) (Nat.lt_trans (hap_lt 5) (by decide))) rfl (st := [.long (lN ((totZ (paidZ S) 31 5).toNat))]) rfl (by decide) rfl (by decide) (Nat.le_of_ble_eq_true rfl) (Nat.le_refl _) (Nat.le_refl _) (fun r w' h => by obtain ⟨-, rfl⟩ := h; exact Nat.le_of_ble_eq_true rfl) ?_
  rintro _ _ ⟨rfl, rfl⟩
  refine ev_eq (lv' := [(0, .ref 0), (1, .int (nI (1))), (2, .int (nI (1)))]) (st' := [.int (nI (pop (hapTo (wonZ S) 5))), .long (lN ((totZ (paidZ S) 31 5).toNat))]) (w' := compW T S P U O1 ((lfB S (itS S n) n)) Q C R tl rf) rfl rfl rfl ?_
  refine ev_top (y := (nI (cntTo (wonZ S) 5))) (congrArg nI (show pop (hapTo (wonZ S) 5) = cntTo (wonZ S) 5 from by exact pop_hap _)) ?_
  refine ev_b bX6_mean_49_50 (lv' := [(0, .ref 0), (1, .int (nI (1))), (2, .int (nI (1)))]) (st' := [.long (Int32.toInt64 ((nI (cntTo (wonZ S) 5)))), .long (lN ((totZ (paidZ S) 31 5).toNat))]) (w2 := compW T S P U O1 ((lfB S (itS S n) n)) Q C R tl rf) rfl ?_
  refine ev_topL (y := lN (cntTo (wonZ S) 5)) (by exact nI_lN (by omega)) ?_
  refine ev_b bX6_mean_50_51 (lv' := [(0, .ref 0), (1, .int (nI (1))), (2, .int (nI (1)))]) (st' := [.int (nI (1)), .long (lN (cntTo (wonZ S) 5)), .long (lN ((totZ (paidZ S) 31 5).toNat))]) (w2 := compW T S P U O1 ((lfB S (itS S n) n)) Q C R tl rf) rfl ?_
  refine ev_callS (Yc := mX6_fraction) [] dX6_mean_51 tw_808 kX6_fraction (m_X6_fraction_1 ((totZ (paidZ S) 31 5).toNat) (cntTo (wonZ S) 5) (big_lt (by omega)) (big_lt (by omega))) rfl (st := []) rfl (by decide) rfl (by decide) (Nat.le_of_ble_eq_true rfl) (Nat.le_refl _) (Nat.le_refl _) (fun r w' h => by obtain ⟨-, rfl⟩ := h; exact Nat.le_of_ble_eq_true rfl) ?_
  rintro _ _ ⟨rfl, rfl⟩
  refine ev_eq (lv' := [(0, .ref 0), (1, .int (nI (1))), (2, .int (nI (1)))]) (st' := [.long (lN (frN ((totZ (paidZ S) 31 5).toNat) (cntTo (wonZ S) 5) 1))]) (w' := compW T S P U O1 ((lfB S (itS S n) n)) Q C R tl rf) rfl rfl rfl ?_
  exact ev_lret dX6_mean_54 rfl (Nat.le_refl 49) (Nat.le_refl _) (Nat.le_refl _) ⟨rfl, _, _, _, _, _, _, rfl, hQ, rfl, rfl⟩
set_option maxHeartbeats 4000000 in
set_option maxRecDepth 100000 in
theorem p_mean_w2_0 {l : Launch} {E : XE} (T : TopN) (S P U : SaleN) (O : OutN) (B : BillN) (Q : SeaN) (C : ScrN) (R : PrtN) (tl rf : Nat → Nat) (n : Nat) (hS : SaleOK S) (hQ : Q.fd < 2147483648) (hn : LiftsTo S n) (hnn : 0 ≤ totZ (itS S n) 31 5 ∧ totZ (itS S n) 31 5 ≤ 5000) (hz : cntTo (wonZ S) 5 = 0 → totZ (itS S n) 31 5 = 0) : MetE l E mX6_mean (6) 0 0 [.ref 0, .int (nI (2)), .int (nI (0))] (compW T S P U O B Q C R tl rf) (CP T S P (C.lt) (C.sz) tl rf (some (.long (lN (frN ((totZ (itS S n) 31 5).toNat) (cntTo (wonZ S) 5) 0))))) := by
  refine MetE.of (by decide +kernel) (Nat.le_of_ble_eq_true rfl) ?_
  have hca := hS.1
  have hpw := pow_ca hS
  have hac := ac_lt hS
  have hcl := cntTo_le (wonZ S) 5
  refine ev_eq (lv' := [(0, .ref 0), (1, .int (nI (2))), (2, .int (nI (0)))]) (st' := []) (w' := compW T S P U O B Q C R tl rf) rfl rfl rfl ?_
  refine ev_b bX6_mean_0_1 (lv' := [(0, .ref 0), (1, .int (nI (2))), (2, .int (nI (0)))]) (st' := [.int (nI (2))]) (w2 := compW T S P U O B Q C R tl rf) rfl ?_
  refine ev_callS (Yc := mX6_isHow) [] dX6_mean_1 tw_711 kX6_isHow m_X6_isHow_2 rfl (st := []) rfl (by decide) rfl (by decide) (Nat.le_of_ble_eq_true rfl) (Nat.le_refl _) (Nat.le_refl _) (fun r w' h => by obtain ⟨-, rfl⟩ := h; exact Nat.le_of_ble_eq_true rfl) ?_
  rintro _ _ ⟨rfl, rfl⟩
  refine ev_eq (lv' := [(0, .ref 0), (1, .int (nI (2))), (2, .int (nI (0)))]) (st' := [.int (nI (1))]) (w' := compW T S P U O B Q C R tl rf) rfl rfl rfl ?_
  refine ev_if_eq_n (tgt := 14) (by decide) dX6_mean_4 (by decide) (fun h4 => (by exfalso; omega)) (fun h4 => ?_)
  refine ev_b bX6_mean_7_8 (lv' := [(0, .ref 0), (1, .int (nI (2))), (2, .int (nI (0)))]) (st' := [.int (nI (0))]) (w2 := compW T S P U O B Q C R tl rf) rfl ?_
  refine ev_callS (Yc := mX6_isEither) [] dX6_mean_8 tw_667 kX6_isEither m_X6_isEither_0 rfl (st := []) rfl (by decide) rfl (by decide) (Nat.le_of_ble_eq_true rfl) (Nat.le_refl _) (Nat.le_refl _) (fun r w' h => by obtain ⟨-, rfl⟩ := h; exact Nat.le_of_ble_eq_true rfl) ?_
  rintro _ _ ⟨rfl, rfl⟩
  refine ev_eq (lv' := [(0, .ref 0), (1, .int (nI (2))), (2, .int (nI (0)))]) (st' := [.int (nI (1))]) (w' := compW T S P U O B Q C R tl rf) rfl rfl rfl ?_
  refine ev_if_ne_n (tgt := 21) (by decide) dX6_mean_11 (by decide) (fun h11 => ?_) (fun h11 => (by exfalso; omega))
  refine ev_b bX6_mean_21_22 (lv' := [(0, .ref 0), (1, .int (nI (2))), (2, .int (nI (0)))]) (st' := [.ref 0]) (w2 := compW T S P U O B Q C R tl rf) rfl ?_
  refine ev_callV (Yc := mX6_chargeAndLift) (rng 0 49) dX6_mean_22 tw_714 kX6_chargeAndLift (m_X6_chargeAndLift T S P U O B Q C R tl rf n hS hn) rfl (st := []) rfl rfl rfl (by decide) comp_hw (by decide) (Nat.le_of_ble_eq_true rfl) (Nat.le_refl _) (Nat.le_refl _) (fun r w' h => by obtain ⟨-, O', rfl, -⟩ := h; exact Nat.le_refl 49) ?_
  rintro _ _ ⟨rfl, O1, rfl, hK1⟩
  refine ev_eq (lv' := [(0, .ref 0), (1, .int (nI (2))), (2, .int (nI (0)))]) (st' := []) (w' := compW T S P U O1 ((lfB S (itS S n) n)) Q C R tl rf) rfl rfl comp_xp ?_
  refine ev_b bX6_mean_25_30 (lv' := [(0, .ref 0), (1, .int (nI (2))), (2, .int (nI (0)))]) (st' := [.int (nI (2)), .ref 30]) (w2 := compW T S P U O1 ((lfB S (itS S n) n)) Q C R tl rf) rfl ?_
  refine ev_callVN (Yc := mX0_payments) [30, 31, 32, 33, 34] dX6_mean_30 tn_754 kX0_payments (m_X0_payments_2 (lfB S (itS S n) n)) rfl (st := []) rfl rfl rfl (by decide) hw_comp__30 (by decide) (Nat.le_of_ble_eq_true rfl) (Nat.le_refl _) (Nat.le_refl _) (fun r w' h => by obtain ⟨-, rfl⟩ := h; exact Nat.le_of_ble_eq_true rfl) ?_
  rintro _ _ ⟨rfl, rfl⟩
  refine ev_eq (lv' := [(0, .ref 0), (1, .int (nI (2))), (2, .int (nI (0)))]) (st' := [.ref 33]) (w' := compW T S P U O1 ((lfB S (itS S n) n)) Q C R tl rf) rfl rfl xp_comp__30 ?_
  refine ev_b bX6_mean_33_35 (lv' := [(0, .ref 0), (1, .int (nI (2))), (2, .int (nI (0)))]) (st' := [.int (nI (31)), .ref 33]) (w2 := compW T S P U O1 ((lfB S (itS S n) n)) Q C R tl rf) rfl ?_
  refine ev_callSN (Yc := mX0_total) [33] dX6_mean_35 tn_611 kX0_total (m_X0_total (BillN.li (lfB S (itS S n) n)) 31 (by decide)) rfl (st := []) rfl (by decide) rfl (by decide) (Nat.le_of_ble_eq_true rfl) (Nat.le_refl _) (Nat.le_refl _) (fun r w' h => by obtain ⟨-, rfl⟩ := h; exact Nat.le_of_ble_eq_true rfl) ?_
  rintro _ _ ⟨rfl, rfl⟩
  refine ev_eq (lv' := [(0, .ref 0), (1, .int (nI (2))), (2, .int (nI (0)))]) (st' := [.int (zI (totZ (itS S n) 31 5))]) (w' := compW T S P U O1 ((lfB S (itS S n) n)) Q C R tl rf) rfl rfl rfl ?_
  refine ev_top (y := (nI ((totZ (itS S n) 31 5).toNat))) (by rw [show totZ (itS S n) 31 5 = (((totZ (itS S n) 31 5).toNat : Nat) : Int) from by exact (Int.toNat_of_nonneg hnn.1).symm]; exact zI_nat _) ?_
  refine ev_b bX6_mean_38_39 (lv' := [(0, .ref 0), (1, .int (nI (2))), (2, .int (nI (0)))]) (st' := [.long (Int32.toInt64 ((nI ((totZ (itS S n) 31 5).toNat))))]) (w2 := compW T S P U O1 ((lfB S (itS S n) n)) Q C R tl rf) rfl ?_
  refine ev_topL (y := lN ((totZ (itS S n) 31 5).toNat)) (by exact nI_lN (by omega)) ?_
  refine ev_b bX6_mean_39_43 (lv' := [(0, .ref 0), (1, .int (nI (2))), (2, .int (nI (0)))]) (st' := [.ref 30, .long (lN ((totZ (itS S n) 31 5).toNat))]) (w2 := compW T S P U O1 ((lfB S (itS S n) n)) Q C R tl rf) rfl ?_
  refine ev_callVN (Yc := mX0_happy) [30, 31, 32, 33, 34] dX6_mean_43 tn_818 kX0_happy (m_X0_happy (lfB S (itS S n) n) (wonZ_b hS)) rfl (st := [.long (lN ((totZ (itS S n) 31 5).toNat))]) rfl rfl rfl (by decide) hw_comp__30 (by decide) (Nat.le_of_ble_eq_true rfl) (Nat.le_refl _) (Nat.le_refl _) (fun r w' h => by obtain ⟨-, rfl⟩ := h; exact Nat.le_of_ble_eq_true rfl) ?_
  rintro _ _ ⟨rfl, rfl⟩
  refine ev_eq (lv' := [(0, .ref 0), (1, .int (nI (2))), (2, .int (nI (0)))]) (st' := [.int (nI (hapTo (wonZ S) 5)), .long (lN ((totZ (itS S n) 31 5).toNat))]) (w' := compW T S P U O1 ((lfB S (itS S n) n)) Q C R tl rf) rfl rfl xp_comp__30 ?_
  refine ev_callS (Yc := mJ6_bitCount_0f7a4) [] dX6_mean_46 tw_696 kJ6_bitCount_0f7a4 (m_bitCount (hapTo (wonZ S) 5) (Nat.lt_trans (hap_lt 5) (by decide))) rfl (st := [.long (lN ((totZ (itS S n) 31 5).toNat))]) rfl (by decide) rfl (by decide) (Nat.le_of_ble_eq_true rfl) (Nat.le_refl _) (Nat.le_refl _) (fun r w' h => by obtain ⟨-, rfl⟩ := h; exact Nat.le_of_ble_eq_true rfl) ?_
  rintro _ _ ⟨rfl, rfl⟩
  refine ev_eq (lv' := [(0, .ref 0), (1, .int (nI (2))), (2, .int (nI (0)))]) (st' := [.int (nI (pop (hapTo (wonZ S) 5))), .long (lN ((totZ (itS S n) 31 5).toNat))]) (w' := compW T S P U O1 ((lfB S (itS S n) n)) Q C R tl rf) rfl rfl rfl ?_
  refine ev_top (y := (nI (cntTo (wonZ S) 5))) (congrArg nI (show pop (hapTo (wonZ S) 5) = cntTo (wonZ S) 5 from by exact pop_hap _)) ?_
  refine ev_b bX6_mean_49_50 (lv' := [(0, .ref 0), (1, .int (nI (2))), (2, .int (nI (0)))]) (st' := [.long (Int32.toInt64 ((nI (cntTo (wonZ S) 5)))), .long (lN ((totZ (itS S n) 31 5).toNat))]) (w2 := compW T S P U O1 ((lfB S (itS S n) n)) Q C R tl rf) rfl ?_
  refine ev_topL (y := lN (cntTo (wonZ S) 5)) (by exact nI_lN (by omega)) ?_
  refine ev_b bX6_mean_50_51 (lv' := [(0, .ref 0), (1, .int (nI (2))), (2, .int (nI (0)))]) (st' := [.int (nI (0)), .long (lN (cntTo (wonZ S) 5)), .long (lN ((totZ (itS S n) 31 5).toNat))]) (w2 := compW T S P U O1 ((lfB S (itS S n) n)) Q C R tl rf) rfl ?_
  refine ev_callS (Yc := mX6_fraction) [] dX6_mean_51 tw_808 kX6_fraction (m_X6_fraction_0 ((totZ (itS S n) 31 5).toNat) (cntTo (wonZ S) 5) (big_lt (by omega)) (big_lt (by omega))) rfl (st := []) rfl (by decide) rfl (by decide) (Nat.le_of_ble_eq_true rfl) (Nat.le_refl _) (Nat.le_refl _) (fun r w' h => by obtain ⟨-, rfl⟩ := h; exact Nat.le_of_ble_eq_true rfl) ?_
  rintro _ _ ⟨rfl, rfl⟩
  refine ev_eq (lv' := [(0, .ref 0), (1, .int (nI (2))), (2, .int (nI (0)))]) (st' := [.long (lN (frN ((totZ (itS S n) 31 5).toNat) (cntTo (wonZ S) 5) 0))]) (w' := compW T S P U O1 ((lfB S (itS S n) n)) Q C R tl rf) rfl rfl rfl ?_
  exact ev_lret dX6_mean_54 rfl (Nat.le_refl 49) (Nat.le_refl _) (Nat.le_refl _) ⟨rfl, _, _, _, _, _, _, rfl, hQ, rfl, rfl⟩
set_option maxHeartbeats 4000000 in
set_option maxRecDepth 100000 in
theorem p_mean_w2_1 {l : Launch} {E : XE} (T : TopN) (S P U : SaleN) (O : OutN) (B : BillN) (Q : SeaN) (C : ScrN) (R : PrtN) (tl rf : Nat → Nat) (n : Nat) (hS : SaleOK S) (hQ : Q.fd < 2147483648) (hn : LiftsTo S n) (hnn : 0 ≤ totZ (itS S n) 31 5 ∧ totZ (itS S n) 31 5 ≤ 5000) (hz : cntTo (wonZ S) 5 = 0 → totZ (itS S n) 31 5 = 0) : MetE l E mX6_mean (6) 0 0 [.ref 0, .int (nI (2)), .int (nI (1))] (compW T S P U O B Q C R tl rf) (CP T S P (C.lt) (C.sz) tl rf (some (.long (lN (frN ((totZ (itS S n) 31 5).toNat) (cntTo (wonZ S) 5) 1))))) := by
  refine MetE.of (by decide +kernel) (Nat.le_of_ble_eq_true rfl) ?_
  have hca := hS.1
  have hpw := pow_ca hS
  have hac := ac_lt hS
  have hcl := cntTo_le (wonZ S) 5
  refine ev_eq (lv' := [(0, .ref 0), (1, .int (nI (2))), (2, .int (nI (1)))]) (st' := []) (w' := compW T S P U O B Q C R tl rf) rfl rfl rfl ?_
  refine ev_b bX6_mean_0_1 (lv' := [(0, .ref 0), (1, .int (nI (2))), (2, .int (nI (1)))]) (st' := [.int (nI (2))]) (w2 := compW T S P U O B Q C R tl rf) rfl ?_
  refine ev_callS (Yc := mX6_isHow) [] dX6_mean_1 tw_711 kX6_isHow m_X6_isHow_2 rfl (st := []) rfl (by decide) rfl (by decide) (Nat.le_of_ble_eq_true rfl) (Nat.le_refl _) (Nat.le_refl _) (fun r w' h => by obtain ⟨-, rfl⟩ := h; exact Nat.le_of_ble_eq_true rfl) ?_
  rintro _ _ ⟨rfl, rfl⟩
  refine ev_eq (lv' := [(0, .ref 0), (1, .int (nI (2))), (2, .int (nI (1)))]) (st' := [.int (nI (1))]) (w' := compW T S P U O B Q C R tl rf) rfl rfl rfl ?_
  refine ev_if_eq_n (tgt := 14) (by decide) dX6_mean_4 (by decide) (fun h4 => (by exfalso; omega)) (fun h4 => ?_)
  refine ev_b bX6_mean_7_8 (lv' := [(0, .ref 0), (1, .int (nI (2))), (2, .int (nI (1)))]) (st' := [.int (nI (1))]) (w2 := compW T S P U O B Q C R tl rf) rfl ?_
  refine ev_callS (Yc := mX6_isEither) [] dX6_mean_8 tw_667 kX6_isEither m_X6_isEither_1 rfl (st := []) rfl (by decide) rfl (by decide) (Nat.le_of_ble_eq_true rfl) (Nat.le_refl _) (Nat.le_refl _) (fun r w' h => by obtain ⟨-, rfl⟩ := h; exact Nat.le_of_ble_eq_true rfl) ?_
  rintro _ _ ⟨rfl, rfl⟩
  refine ev_eq (lv' := [(0, .ref 0), (1, .int (nI (2))), (2, .int (nI (1)))]) (st' := [.int (nI (1))]) (w' := compW T S P U O B Q C R tl rf) rfl rfl rfl ?_
  refine ev_if_ne_n (tgt := 21) (by decide) dX6_mean_11 (by decide) (fun h11 => ?_) (fun h11 => (by exfalso; omega))
  refine ev_b bX6_mean_21_22 (lv' := [(0, .ref 0), (1, .int (nI (2))), (2, .int (nI (1)))]) (st' := [.ref 0]) (w2 := compW T S P U O B Q C R tl rf) rfl ?_
  refine ev_callV (Yc := mX6_chargeAndLift) (rng 0 49) dX6_mean_22 tw_714 kX6_chargeAndLift (m_X6_chargeAndLift T S P U O B Q C R tl rf n hS hn) rfl (st := []) rfl rfl rfl (by decide) comp_hw (by decide) (Nat.le_of_ble_eq_true rfl) (Nat.le_refl _) (Nat.le_refl _) (fun r w' h => by obtain ⟨-, O', rfl, -⟩ := h; exact Nat.le_refl 49) ?_
  rintro _ _ ⟨rfl, O1, rfl, hK1⟩
  refine ev_eq (lv' := [(0, .ref 0), (1, .int (nI (2))), (2, .int (nI (1)))]) (st' := []) (w' := compW T S P U O1 ((lfB S (itS S n) n)) Q C R tl rf) rfl rfl comp_xp ?_
  refine ev_b bX6_mean_25_30 (lv' := [(0, .ref 0), (1, .int (nI (2))), (2, .int (nI (1)))]) (st' := [.int (nI (2)), .ref 30]) (w2 := compW T S P U O1 ((lfB S (itS S n) n)) Q C R tl rf) rfl ?_
  refine ev_callVN (Yc := mX0_payments) [30, 31, 32, 33, 34] dX6_mean_30 tn_754 kX0_payments (m_X0_payments_2 (lfB S (itS S n) n)) rfl (st := []) rfl rfl rfl (by decide) hw_comp__30 (by decide) (Nat.le_of_ble_eq_true rfl) (Nat.le_refl _) (Nat.le_refl _) (fun r w' h => by obtain ⟨-, rfl⟩ := h; exact Nat.le_of_ble_eq_true rfl) ?_
  rintro _ _ ⟨rfl, rfl⟩
  refine ev_eq (lv' := [(0, .ref 0), (1, .int (nI (2))), (2, .int (nI (1)))]) (st' := [.ref 33]) (w' := compW T S P U O1 ((lfB S (itS S n) n)) Q C R tl rf) rfl rfl xp_comp__30 ?_
  refine ev_b bX6_mean_33_35 (lv' := [(0, .ref 0), (1, .int (nI (2))), (2, .int (nI (1)))]) (st' := [.int (nI (31)), .ref 33]) (w2 := compW T S P U O1 ((lfB S (itS S n) n)) Q C R tl rf) rfl ?_
  refine ev_callSN (Yc := mX0_total) [33] dX6_mean_35 tn_611 kX0_total (m_X0_total (BillN.li (lfB S (itS S n) n)) 31 (by decide)) rfl (st := []) rfl (by decide) rfl (by decide) (Nat.le_of_ble_eq_true rfl) (Nat.le_refl _) (Nat.le_refl _) (fun r w' h => by obtain ⟨-, rfl⟩ := h; exact Nat.le_of_ble_eq_true rfl) ?_
  rintro _ _ ⟨rfl, rfl⟩
  refine ev_eq (lv' := [(0, .ref 0), (1, .int (nI (2))), (2, .int (nI (1)))]) (st' := [.int (zI (totZ (itS S n) 31 5))]) (w' := compW T S P U O1 ((lfB S (itS S n) n)) Q C R tl rf) rfl rfl rfl ?_
  refine ev_top (y := (nI ((totZ (itS S n) 31 5).toNat))) (by rw [show totZ (itS S n) 31 5 = (((totZ (itS S n) 31 5).toNat : Nat) : Int) from by exact (Int.toNat_of_nonneg hnn.1).symm]; exact zI_nat _) ?_
  refine ev_b bX6_mean_38_39 (lv' := [(0, .ref 0), (1, .int (nI (2))), (2, .int (nI (1)))]) (st' := [.long (Int32.toInt64 ((nI ((totZ (itS S n) 31 5).toNat))))]) (w2 := compW T S P U O1 ((lfB S (itS S n) n)) Q C R tl rf) rfl ?_
  refine ev_topL (y := lN ((totZ (itS S n) 31 5).toNat)) (by exact nI_lN (by omega)) ?_
  refine ev_b bX6_mean_39_43 (lv' := [(0, .ref 0), (1, .int (nI (2))), (2, .int (nI (1)))]) (st' := [.ref 30, .long (lN ((totZ (itS S n) 31 5).toNat))]) (w2 := compW T S P U O1 ((lfB S (itS S n) n)) Q C R tl rf) rfl ?_
  refine ev_callVN (Yc := mX0_happy) [30, 31, 32, 33, 34] dX6_mean_43 tn_818 kX0_happy (m_X0_happy (lfB S (itS S n) n) (wonZ_b hS)) rfl (st := [.long (lN ((totZ (itS S n) 31 5).toNat))]) rfl rfl rfl (by decide) hw_comp__30 (by decide) (Nat.le_of_ble_eq_true rfl) (Nat.le_refl _) (Nat.le_refl _) (fun r w' h => by obtain ⟨-, rfl⟩ := h; exact Nat.le_of_ble_eq_true rfl) ?_
  rintro _ _ ⟨rfl, rfl⟩
  refine ev_eq (lv' := [(0, .ref 0), (1, .int (nI (2))), (2, .int (nI (1)))]) (st' := [.int (nI (hapTo (wonZ S) 5)), .long (lN ((totZ (itS S n) 31 5).toNat))]) (w' := compW T S P U O1 ((lfB S (itS S n) n)) Q C R tl rf) rfl rfl xp_comp__30 ?_
  refine ev_callS (Yc := mJ6_bitCount_0f7a4) [] dX6_mean_46 tw_696 kJ6_bitCount_0f7a4 (m_bitCount (hapTo (wonZ S) 5) (Nat.lt_trans (hap_lt 5) (by decide))) rfl (st := [.long (lN ((totZ (itS S n) 31 5).toNat))]) rfl (by decide) rfl (by decide) (Nat.le_of_ble_eq_true rfl) (Nat.le_refl _) (Nat.le_refl _) (fun r w' h => by obtain ⟨-, rfl⟩ := h; exact Nat.le_of_ble_eq_true rfl) ?_
  rintro _ _ ⟨rfl, rfl⟩
  refine ev_eq (lv' := [(0, .ref 0), (1, .int (nI (2))), (2, .int (nI (1)))]) (st' := [.int (nI (pop (hapTo (wonZ S) 5))), .long (lN ((totZ (itS S n) 31 5).toNat))]) (w' := compW T S P U O1 ((lfB S (itS S n) n)) Q C R tl rf) rfl rfl rfl ?_
  refine ev_top (y := (nI (cntTo (wonZ S) 5))) (congrArg nI (show pop (hapTo (wonZ S) 5) = cntTo (wonZ S) 5 from by exact pop_hap _)) ?_
  refine ev_b bX6_mean_49_50 (lv' := [(0, .ref 0), (1, .int (nI (2))), (2, .int (nI (1)))]) (st' := [.long (Int32.toInt64 ((nI (cntTo (wonZ S) 5)))), .long (lN ((totZ (itS S n) 31 5).toNat))]) (w2 := compW T S P U O1 ((lfB S (itS S n) n)) Q C R tl rf) rfl ?_
  refine ev_topL (y := lN (cntTo (wonZ S) 5)) (by exact nI_lN (by omega)) ?_
  refine ev_b bX6_mean_50_51 (lv' := [(0, .ref 0), (1, .int (nI (2))), (2, .int (nI (1)))]) (st' := [.int (nI (1)), .long (lN (cntTo (wonZ S) 5)), .long (lN ((totZ (itS S n) 31 5).toNat))]) (w2 := compW T S P U O1 ((lfB S (itS S n) n)) Q C R tl rf) rfl ?_
  refine ev_callS (Yc := mX6_fraction) [] dX6_mean_51 tw_808 kX6_fraction (m_X6_fraction_1 ((totZ (itS S n) 31 5).toNat) (cntTo (wonZ S) 5) (big_lt (by omega)) (big_lt (by omega))) rfl (st := []) rfl (by decide) rfl (by decide) (Nat.le_of_ble_eq_true rfl) (Nat.le_refl _) (Nat.le_refl _) (fun r w' h => by obtain ⟨-, rfl⟩ := h; exact Nat.le_of_ble_eq_true rfl) ?_
  rintro _ _ ⟨rfl, rfl⟩
  refine ev_eq (lv' := [(0, .ref 0), (1, .int (nI (2))), (2, .int (nI (1)))]) (st' := [.long (lN (frN ((totZ (itS S n) 31 5).toNat) (cntTo (wonZ S) 5) 1))]) (w' := compW T S P U O1 ((lfB S (itS S n) n)) Q C R tl rf) rfl rfl rfl ?_
  exact ev_lret dX6_mean_54 rfl (Nat.le_refl 49) (Nat.le_refl _) (Nat.le_refl _) ⟨rfl, _, _, _, _, _, _, rfl, hQ, rfl, rfl⟩
