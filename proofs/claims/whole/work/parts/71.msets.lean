/-! ===== the Model's sets ===== -/
theorem bit_step : ∀ x, x < 26 → ∀ n, n < 64 → ((x < 6 → n ||| 1 <<< x = n ||| itB x n) ∧ (6 ≤ x → n = n ||| itB x n) ∧ (itB x n ≠ 0 ↔ (x < 6 ∧ n.testBit x = false))) := by decide +kernel
theorem bit_first : ∀ x, x < 26 → (0 ||| itB x 0 = (1 <<< x) &&& 63) ∧ (if (1 : Nat) - 0 = 1 ∧ itB x 0 ≠ 0 then 1 else 0) = (if (1 <<< x) &&& 63 = 0 then 0 else 1) := by decide +kernel
def MInv (lt : Nat → Nat) (n s k n1 o1 : Nat) : Prop := s + k ≤ n ∧ n1 < 64 ∧ o1 ≤ 1 ∧ (k = 0 → n1 = 0 ∧ o1 = 0) ∧ (1 ≤ k → setGo lt n (97 - k) n1 (1 - o1) (s + k) = setGo lt n 96 ((1 <<< (lt s - 97)) &&& 63) (if (1 <<< (lt s - 97)) &&& 63 = 0 then 0 else 1) (s + 1))
theorem ms_next {lt : Nat → Nat} {n s k n1 o1 : Nat} (h : MInv lt n s k n1 o1) (hn : n ≤ 96) (hs : isSm (sgz lt n (s + k))) (n2 o2 : Nat) (h2 : n2 = n1 ||| itB (lt (s + k) - 97) n1) (ho : 1 - o2 = if 1 - o1 = 1 ∧ itB (lt (s + k) - 97) n1 ≠ 0 then 1 else 0) (ho2 : o2 ≤ 1) : MInv lt n s (k + 1) n2 o2 := by
  obtain ⟨h1, hn1, ho1, hz, hg⟩ := h
  have hsg := sgz_lt (lt := lt) (n := n) (p := s + k) (by omega)
  refine ⟨by omega, by rw [h2]; exact Nat.or_lt_two_pow (n := 6) hn1 itB_lt, ho2, fun z => absurd z (by omega), fun _ => ?_⟩
  rcases Nat.eq_zero_or_pos k with z | z
  · subst z
    obtain ⟨rfl, rfl⟩ := hz rfl
    have hf := bit_first (lt (s + 0) - 97) (by omega)
    rw [h2, ho, hf.1, hf.2]
    rfl
  · have hg2 := hg z
    rw [show 97 - k = (97 - (k + 1)) + 1 by omega, setGo_s, if_pos hs, ← h2, ← ho] at hg2
    exact hg2
theorem ms_end {lt : Nat → Nat} {n s k n1 o1 : Nat} (h : MInv lt n s k n1 o1) (hn : n ≤ 96) (hk : 1 ≤ k) (hs : ¬ isSm (sgz lt n (s + k))) : setGo lt n 96 ((1 <<< (lt s - 97)) &&& 63) (if (1 <<< (lt s - 97)) &&& 63 = 0 then 0 else 1) (s + 1) = (n1, 1 - o1, s + k) := by
  have h1 := h.1
  rw [← h.2.2.2.2 hk, show 97 - k = (96 - k) + 1 by omega, setGo_s, if_neg hs]

