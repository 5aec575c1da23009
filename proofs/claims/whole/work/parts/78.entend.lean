/-! ===== all letters are read, or a fault is found ===== -/
theorem pGo_f {C : ScrN} (h : C.fa ≠ -9) : ∀ f, pGo f C = C
  | 0 => rfl
  | f + 1 => by rw [pGo_s, if_neg (fun z => h z.1)]
theorem pGo_end {lt : Nat → Nat} {n : Nat} (hn : n ≤ 96) : ∀ f C, ScrI n lt C → EntI lt n C → 16 ≤ C.sn + f → (pGo f C).fa = -9 → n ≤ (pGo f C).pl
  | 0, C, h, he, hf, hz => by
    have hz2 : C.fa = -9 := hz
    have h6 := (he.2 hz2).2
    show n ≤ C.pl
    omega
  | f + 1, C, h, he, hf, hz => by
    rw [pGo_s] at hz ⊢
    have hs := h.1
    by_cases hc : C.fa = -9 ∧ C.pl < C.sz
    · rw [if_pos hc] at hz ⊢
      have h6 := (he.2 hc.1).2
      by_cases hE : (stpS C).fa = -9
      · refine pGo_end hn f _ (step_i hn h) (ent_step h he hc.1 (by omega)) ?_ hz
        have hE2 : (stE C.lt C.sz C.pl).2 = -9 := stp_same.2.2.2.symm.trans hE
        have e : (stpS C).sn = C.sn + 1 := by rw [stpS_t hE2 (by omega)]
        omega
      · rw [pGo_f hE] at hz
        exact absurd hz hE
    · rw [if_neg hc] at hz ⊢
      have : ¬ C.pl < C.sz := fun z => hc ⟨hz, z⟩
      omega
theorem prs_end {C : ScrN} (hz : C.sz ≤ 96) (hf : (prsS C).fa = -9) : C.sz ≤ (prsS C).pl :=
  pGo_end hz 16 _ (step_i hz ini_i) (ent_step ini_i ⟨fun s hs => absurd hs (Nat.not_lt_zero s), fun _ => ⟨rfl, Nat.le_refl 0⟩⟩ rfl (by show 0 < 16; omega)) (Nat.le_add_left 16 _) hf

