/-! ===== which fault it is ===== -/
def FltI (lt : Nat → Nat) (n : Nat) (C : ScrN) : Prop := C.fa ≠ -9 → C.fa = (stE lt n (plc lt n C.sn)).2
theorem flt_step {lt : Nat → Nat} {n : Nat} {C : ScrN} (h : ScrI n lt C) (he : EntI lt n C) (hf : C.fa = -9) (hlt : C.sn < 16) : FltI lt n (stpS C) := by
  obtain ⟨h1, h2, h3, h4⟩ := h
  subst h1
  subst h2
  have ep := (he.2 hf).1
  by_cases hE : (stE C.lt C.sz C.pl).2 = -9
  · exact fun z => absurd (stp_same.2.2.2.trans hE) z
  · intro _
    rw [stpS_f (fun z => hE z.1)]
    show (stE C.lt C.sz C.pl).2 = (stE C.lt C.sz (plc C.lt C.sz C.sn)).2
    rw [← ep]
theorem pGo_flt {lt : Nat → Nat} {n : Nat} (hn : n ≤ 96) : ∀ f C, ScrI n lt C → EntI lt n C → FltI lt n C → FltI lt n (pGo f C)
  | 0, _, _, _, hF => hF
  | f + 1, C, h, he, hF => by
    rw [pGo_s]
    split
    · rename_i hc
      have h6 := (he.2 hc.1).2
      have hz := h.1
      have hl : C.sn < 16 := by omega
      exact pGo_flt hn f _ (step_i hn h) (ent_step h he hc.1 hl) (flt_step h he hc.1 hl)
    · exact hF
theorem prs_flt {C : ScrN} (hz : C.sz ≤ 96) : FltI C.lt C.sz (prsS C) :=
  pGo_flt hz 16 _ (step_i hz ini_i) (ent_step ini_i ⟨fun s hs => absurd hs (Nat.not_lt_zero s), fun _ => ⟨rfl, Nat.le_refl 0⟩⟩ rfl (by show 0 < 16; omega)) (flt_step ini_i ⟨fun s hs => absurd hs (Nat.not_lt_zero s), fun _ => ⟨rfl, Nat.le_refl 0⟩⟩ rfl (by show 0 < 16; omega))

