/-! ===== what stands in the component's Script: the statements in their order ===== -/
/-- where the s-th statement begins -/
def plc (lt : Nat → Nat) (n : Nat) : Nat → Nat
  | 0 => 0
  | s + 1 => (stE lt n (plc lt n s)).1
def EntI (lt : Nat → Nat) (n : Nat) (C : ScrN) : Prop := (∀ s, s < C.sn → C.st s = plc lt n s ∧ C.wd s = (rdWord lt n (plc lt n s)).1 ∧ C.f1 s = (stA lt n (plc lt n s)).1 ∧ C.f2 s = (stB lt n (plc lt n s)).1 ∧ C.f3 s = (stC lt n (plc lt n s)).1 ∧ (stE lt n (plc lt n s)).2 = -9) ∧ (C.fa = -9 → C.pl = plc lt n C.sn ∧ 6 * C.sn ≤ C.pl)
theorem ent_step {lt : Nat → Nat} {n : Nat} {C : ScrN} (h : ScrI n lt C) (he : EntI lt n C) (hf : C.fa = -9) (hlt : C.sn < 16) : EntI lt n (stpS C) := by
  obtain ⟨h1, h2, h3, h4⟩ := h
  subst h1
  subst h2
  obtain ⟨e1, e2⟩ := he
  obtain ⟨ep, e6⟩ := e2 hf
  by_cases hE : (stE C.lt C.sz C.pl).2 = -9
  · rw [stpS_t hE hlt]
    have hg := stE_g hE
    refine ⟨fun s hs => ?_, fun _ => ⟨?_, ?_⟩⟩
    · by_cases e : s = C.sn
      · subst e
        show up C.st C.sn C.pl C.sn = _ ∧ up C.wd C.sn _ C.sn = _ ∧ up C.f1 C.sn _ C.sn = _ ∧ up C.f2 C.sn _ C.sn = _ ∧ up C.f3 C.sn _ C.sn = _ ∧ _
        rw [up_at, up_at, up_at, up_at, up_at, ← ep]
        exact ⟨rfl, rfl, rfl, rfl, rfl, hE⟩
      · have hs2 : s < C.sn := by have : s < C.sn + 1 := hs; omega
        show up C.st C.sn C.pl s = _ ∧ up C.wd C.sn _ s = _ ∧ up C.f1 C.sn _ s = _ ∧ up C.f2 C.sn _ s = _ ∧ up C.f3 C.sn _ s = _ ∧ _
        rw [up_ne e, up_ne e, up_ne e, up_ne e, up_ne e]
        exact e1 s hs2
    · show (stE C.lt C.sz C.pl).1 = (stE C.lt C.sz (plc C.lt C.sz C.sn)).1
      rw [← ep]
    · show 6 * (C.sn + 1) ≤ (stE C.lt C.sz C.pl).1
      omega
  · rw [stpS_f (fun z => hE z.1)]
    exact ⟨e1, fun z => absurd z hE⟩
theorem pGo_e {lt : Nat → Nat} {n : Nat} (hn : n ≤ 96) : ∀ f C, ScrI n lt C → EntI lt n C → EntI lt n (pGo f C)
  | 0, _, _, he => he
  | f + 1, C, h, he => by
    rw [pGo_s]
    split
    · rename_i hc
      have h6 := (he.2 hc.1).2
      have hz := h.1
      exact pGo_e hn f _ (step_i hn h) (ent_step h he hc.1 (by omega))
    · exact he
theorem prs_e {C : ScrN} (hz : C.sz ≤ 96) : EntI C.lt C.sz (prsS C) :=
  pGo_e hz 16 _ (step_i hz ini_i) (ent_step ini_i ⟨fun s hs => absurd hs (Nat.not_lt_zero s), fun _ => ⟨rfl, Nat.le_refl 0⟩⟩ rfl (by show 0 < 16; omega))

