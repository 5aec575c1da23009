/-! ===== a statement with no fault has six letters at least ===== -/
theorem sign_g {lt : Nat → Nat} {n s : Nat} {q : PF} (h : (rdSign lt n s q).2 = -9) : q.2 = -9 ∧ (rdSign lt n s q).1 = q.1 + 1 := by
  unfold rdSign at h ⊢
  by_cases h1 : q.2 = -9
  · rw [if_pos h1] at h ⊢
    by_cases h2 : sgz lt n q.1 = ((s : Nat) : Int)
    · rw [if_pos h2]
      exact ⟨h1, rfl⟩
    · rw [if_neg h2] at h
      have h3 : ((q.1 : Nat) : Int) = -9 := h
      omega
  · rw [if_neg h1] at h
    exact absurd h h1
theorem num_g {lt : Nat → Nat} {n : Nat} {q : PF} (h : (rdNum lt n q).2.2 = -9) : q.2 = -9 ∧ q.1 + 1 ≤ (rdNum lt n q).2.1 := by
  unfold rdNum at h ⊢
  by_cases h1 : q.2 = -9
  · rw [if_pos h1] at h ⊢
    by_cases h2 : isDg (sgz lt n q.1)
    · rw [if_pos h2]
      refine ⟨h1, ?_⟩
      split
      · show q.1 + 1 ≤ q.1 + 2
        omega
      · exact Nat.le_refl _
    · rw [if_neg h2] at h
      have h3 : ((q.1 : Nat) : Int) = -9 := h
      omega
  · rw [if_neg h1] at h
    exact absurd h h1
theorem item_g {lt : Nat → Nat} {n : Nat} {q : PF} (h : (rdItem lt n q).2.2 = -9) : q.2 = -9 ∧ (rdItem lt n q).2.1 = q.1 + 1 := by
  unfold rdItem at h ⊢
  by_cases h1 : q.2 = -9
  · rw [if_pos h1] at h ⊢
    by_cases h2 : isSm (sgz lt n q.1)
    · rw [if_pos h2]
      exact ⟨h1, rfl⟩
    · rw [if_neg h2] at h
      have h3 : ((q.1 : Nat) : Int) = -9 := h
      omega
  · rw [if_neg h1] at h
    exact absurd h h1
theorem setGo_ge {lt : Nat → Nat} {n : Nat} : ∀ f set ok p, p ≤ (setGo lt n f set ok p).2.2
  | 0, _, _, p => Nat.le_refl p
  | f + 1, set, ok, p => by
    rw [setGo_s]
    split
    · exact Nat.le_trans (Nat.le_succ p) (setGo_ge f _ _ (p + 1))
    · exact Nat.le_refl p
theorem set_g {lt : Nat → Nat} {n : Nat} {q : PF} (h : (rdSet lt n q).2.2 = -9) : q.2 = -9 ∧ q.1 + 1 ≤ (rdSet lt n q).2.1 := by
  unfold rdSet at h ⊢
  by_cases h1 : (rdItem lt n q).2.2 = -9
  · rw [if_pos h1]
    have h2 := item_g h1
    refine ⟨h2.1, ?_⟩
    rw [← h2.2]
    exact setGo_ge 96 _ _ _
  · rw [if_neg h1] at h
    exact absurd h h1
theorem wordF_g {lt : Nat → Nat} {p e : Nat} (h : wordF lt p e ≠ -1) : p + 3 ≤ e := by
  have l0 : sLen.getD 0 0 = 3 := rfl
  have l1 : sLen.getD 1 0 = 3 := rfl
  have l2 : sLen.getD 2 0 = 4 := rfl
  have l3 : sLen.getD 3 0 = 4 := rfl
  have l4 : sLen.getD 4 0 = 5 := rfl
  unfold wordF at h
  by_cases h0 : splW lt 0 p e
  · have := h0.1; omega
  · rw [if_neg h0] at h
    by_cases h1 : splW lt 1 p e
    · have := h1.1; omega
    · rw [if_neg h1] at h
      by_cases h2 : splW lt 2 p e
      · have := h2.1; omega
      · rw [if_neg h2] at h
        by_cases h3 : splW lt 3 p e
        · have := h3.1; omega
        · rw [if_neg h3] at h
          by_cases h4 : splW lt 4 p e
          · have := h4.1; omega
          · rw [if_neg h4] at h
            exact absurd rfl h
theorem word_g {lt : Nat → Nat} {n p : Nat} (h : (rdWord lt n p).2.2 = -9) : p + 3 ≤ (rdWord lt n p).2.1 := by
  refine wordF_g (lt := lt) (fun z => ?_)
  have e : (rdWord lt n p).2.2 = ((p : Nat) : Int) := if_pos z
  omega
theorem stA_g {lt : Nat → Nat} {n p : Nat} (h : (stA lt n p).2.2 = -9) : p + 5 ≤ (stA lt n p).2.1 := by
  unfold stA natZ at h ⊢
  by_cases h3 : (rdWord lt n p).1 = 3
  · rw [if_pos h3] at h ⊢
    have a := item_g (lt := lt) (n := n) h
    have b := sign_g a.1
    have c := word_g b.1
    show p + 5 ≤ (rdItem lt n _).2.1
    omega
  · rw [if_neg h3] at h ⊢
    have a := num_g (lt := lt) (n := n) h
    have b := sign_g a.1
    have c := word_g b.1
    show p + 5 ≤ (rdNum lt n _).2.1
    omega
theorem stB_g {lt : Nat → Nat} {n p : Nat} (h : (stB lt n p).2.2 = -9) : p + 5 ≤ (stB lt n p).2.1 := by
  unfold stB natZ at h ⊢
  by_cases h1 : (rdWord lt n p).1 = 1
  · rw [if_pos h1] at h ⊢
    exact stA_g h
  · rw [if_neg h1] at h ⊢
    by_cases h0 : (rdWord lt n p).1 = 0
    · rw [if_pos h0] at h ⊢
      have a := set_g h
      have b := sign_g a.1
      have c := stA_g b.1
      omega
    · rw [if_neg h0] at h ⊢
      have a := num_g (lt := lt) (n := n) h
      have b := sign_g a.1
      have c := stA_g b.1
      show p + 5 ≤ (rdNum lt n _).2.1
      omega
theorem stC_g {lt : Nat → Nat} {n p : Nat} (h : (stC lt n p).2.2 = -9) : p + 5 ≤ (stC lt n p).2.1 := by
  unfold stC natZ at h ⊢
  by_cases h1 : (rdWord lt n p).1 = 0 ∨ (rdWord lt n p).1 = 2
  · rw [if_pos h1] at h ⊢
    have a := num_g (lt := lt) (n := n) h
    have b := sign_g a.1
    have c := stB_g b.1
    show p + 5 ≤ (rdNum lt n _).2.1
    omega
  · rw [if_neg h1] at h ⊢
    exact stB_g h
theorem stE_g {lt : Nat → Nat} {n p : Nat} (h : (stE lt n p).2 = -9) : p + 6 ≤ (stE lt n p).1 := by
  have a := sign_g (lt := lt) (n := n) (s := 59) h
  have c := stC_g a.1
  have e : (stE lt n p).1 = (stC lt n p).2.1 + 1 := a.2
  omega

