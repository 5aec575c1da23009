/-! ===== the Model's auction: statements of all words, and what stands in the Script ===== -/
theorem stp_good {lt : Nat → Nat} {n p pl od : Nat} {z : Int} {tt : Nat → Nat} (h : StP lt n p z pl od tt) (hE : (stE lt n p).2 = -9) : z = (rdWord lt n p).1 ∧ pl = (stE lt n p).1 ∧ StM z (stA lt n p).1 (stB lt n p).1 (stC lt n p).1 od tt ∧ (∀ j, j < wln z → tt j ≤ 99) ∧ 0 ≤ z ∧ z ≤ 4 := by
  rcases h with ⟨-, h2, h3, h4, h5⟩ | ⟨h1, -⟩
  · have hw := word_st hE
    have hz : (rdWord lt n p).1 ≤ 4 := (word_z (lt := lt) (p := p) (e := wrdEnd lt n 96 p)).2
    rw [h2]
    exact ⟨rfl, h3, h4, h5, hw, hz⟩
  · exact absurd hE h1
theorem stp_bad {lt : Nat → Nat} {n p pl od : Nat} {z : Int} {tt : Nat → Nat} (h : StP lt n p z pl od tt) (hE : (stE lt n p).2 ≠ -9) : z = -9 ∧ ((pl : Nat) : Int) = (stE lt n p).2 := by
  rcases h with ⟨h1, -⟩ | ⟨-, h2, h3⟩
  · exact absurd h1 hE
  · exact ⟨h2, h3⟩
theorem plc_le {lt : Nat → Nat} {n : Nat} : ∀ s, plc lt n s ≤ n
  | 0 => Nat.zero_le _
  | s + 1 => (stE_ok (plc_le s)).1
/-- a further statement is read only where letters are left -/
def EntJ (lt : Nat → Nat) (n : Nat) (C : ScrN) : Prop := (∀ s, 0 < s → s < C.sn → plc lt n s < n) ∧ (C.fa ≠ -9 → 0 < C.sn → plc lt n C.sn < n) ∧ (C.fa = -9 → 0 < C.sn)
theorem entj_step {lt : Nat → Nat} {n : Nat} {C : ScrN} (h : ScrI n lt C) (he : EntI lt n C) (hj : ∀ s, 0 < s → s < C.sn → plc lt n s < n) (hf : C.fa = -9) (hlt : C.sn < 16) (hz : C.sn = 0 ∨ C.pl < C.sz) : EntJ lt n (stpS C) := by
  obtain ⟨h1, h2, h3, h4⟩ := h
  subst h1
  subst h2
  have ep := (he.2 hf).1
  by_cases hE : (stE C.lt C.sz C.pl).2 = -9
  · rw [stpS_t hE hlt]
    refine ⟨fun s h0 hs => ?_, fun z => absurd hE z, fun _ => Nat.succ_pos _⟩
    by_cases e : s = C.sn
    · subst e
      rw [← ep]
      rcases hz with hz | hz
      · omega
      · exact hz
    · exact hj s h0 (by have : s < C.sn + 1 := hs; omega)
  · rw [stpS_f (fun z => hE z.1)]
    refine ⟨hj, fun _ h0 => ?_, fun z => absurd z hE⟩
    show plc C.lt C.sz C.sn < C.sz
    rw [← ep]
    rcases hz with hz | hz
    · have h0 : 0 < C.sn := h0
      omega
    · exact hz
theorem pGo_j {lt : Nat → Nat} {n : Nat} (hn : n ≤ 96) : ∀ f C, ScrI n lt C → EntI lt n C → EntJ lt n C → EntJ lt n (pGo f C)
  | 0, _, _, _, hJ => hJ
  | f + 1, C, h, he, hJ => by
    rw [pGo_s]
    split
    · rename_i hc
      have h6 := (he.2 hc.1).2
      have hz := h.1
      have hl : C.sn < 16 := by omega
      exact pGo_j hn f _ (step_i hn h) (ent_step h he hc.1 hl) (entj_step h he hJ.1 hc.1 hl (Or.inr hc.2))
    · exact hJ
theorem prs_j {C : ScrN} (hz : C.sz ≤ 96) : EntJ C.lt C.sz (prsS C) :=
  pGo_j hz 16 _ (step_i hz ini_i) (ent_step ini_i ⟨fun s hs => absurd hs (Nat.not_lt_zero s), fun _ => ⟨rfl, Nat.le_refl 0⟩⟩ rfl (by show 0 < 16; omega)) (entj_step ini_i ⟨fun s hs => absurd hs (Nat.not_lt_zero s), fun _ => ⟨rfl, Nat.le_refl 0⟩⟩ (fun s _ hs => absurd hs (Nat.not_lt_zero s)) rfl (by show 0 < 16; omega) (Or.inl rfl))
theorem prs_facts {C : ScrN} {lt : Nat → Nat} {n : Nat} (h1 : C.lt = lt) (h2 : C.sz = n) (hn : n ≤ 96) :
    (∀ s, s < (prsS C).sn → (prsS C).st s = plc lt n s ∧ (prsS C).wd s = (rdWord lt n (plc lt n s)).1 ∧ (prsS C).f1 s = (stA lt n (plc lt n s)).1 ∧ (prsS C).f2 s = (stB lt n (plc lt n s)).1 ∧ (prsS C).f3 s = (stC lt n (plc lt n s)).1 ∧ (stE lt n (plc lt n s)).2 = -9) ∧
    ((prsS C).fa ≠ -9 → (prsS C).fa = (stE lt n (plc lt n (prsS C).sn)).2) ∧ ((prsS C).fa = -9 → n ≤ plc lt n (prsS C).sn) ∧ EntJ lt n (prsS C) ∧ StOK (prsS C) := by
  subst h1
  subst h2
  have he := prs_e hn
  refine ⟨he.1, prs_flt hn, fun hf => ?_, prs_j hn, (prs_i hn).2.2.2⟩
  have := prs_end hn hf
  rw [← (he.2 hf).1]
  exact this
/-- whether what was told is as it must be, and what it does, by the Model -/
abbrev fitB (S : SaleN) (tt : Nat → Nat) (od : Nat) (z : Int) : Prop := od = 0 ∧ ((z = 0 ∧ tt 0 < 5 ∧ 0 < tt 2 ∧ S.ca < 10) ∨ (z = 1 ∧ tt 0 < S.ca) ∨ (z = 2 ∧ tt 0 < 5 ∧ tt 1 < 6 ∧ tt 2 < 10) ∨ (z = 3 ∧ tt 1 < 10) ∨ (z = 4 ∧ tt 0 < S.ca ∧ 0 < tt 1))
def doM (S : SaleN) (tt : Nat → Nat) (z : Int) : SaleN := if z = 0 then addS S (tt 0) (tt 1) (tt 2) else if z = 1 then turnS S (tt 0) else if z = 2 then kindS S (tt 0) (tt 1) (tt 2) else if z = 3 then keepS S (tt 0) (tt 1) else priceS S (tt 0) (tt 1)
theorem fit_iff {S : SaleN} {w a b c : Int} {od : Nat} {tt : Nat → Nat} (h : StM w a b c od tt) : fitB S tt od w ↔ stOk S w a b c := by
  unfold StM at h
  unfold fitB stOk
  by_cases z : od = 0
  · rcases h with ⟨rfl, h1, h2, h3, h4⟩ | ⟨rfl, h1, h2⟩ | ⟨rfl, h1, h2, h3, h4⟩ | ⟨rfl, h1, h2, h3⟩ | ⟨rfl, h1, h2, h3⟩
    · have := h2 z
      omega
    · omega
    · omega
    · have := h1 z
      omega
    · omega
  · rcases h with ⟨rfl, h1, h2, h3, h4⟩ | ⟨rfl, h1, h2⟩ | ⟨rfl, h1, h2, h3, h4⟩ | ⟨rfl, h1, h2, h3⟩ | ⟨rfl, h1, h2, h3⟩
    · have := h3 z
      omega
    · omega
    · omega
    · have := h2 z
      omega
    · omega
theorem do_same {S : SaleN} {w a b c : Int} {od : Nat} {tt : Nat → Nat} (h : StM w a b c od tt) (hf : fitB S tt od w) : doM S tt w = stDo S w a b c := by
  have z := hf.1
  unfold StM at h
  unfold doM stDo
  rcases h with ⟨rfl, h1, h2, h3, h4⟩ | ⟨rfl, h1, h2⟩ | ⟨rfl, h1, h2, h3, h4⟩ | ⟨rfl, h1, h2, h3⟩ | ⟨rfl, h1, h2, h3⟩
  · rw [if_pos rfl, if_pos rfl, h1, h2 z, h4]
    rfl
  · rw [if_neg (by decide), if_pos rfl, if_neg (by decide), if_pos rfl, h1]
    rfl
  · rw [if_neg (by decide), if_neg (by decide), if_pos rfl, if_neg (by decide), if_neg (by decide), if_pos rfl, h1, h2, h3]
    rfl
  · rw [if_neg (by decide), if_neg (by decide), if_neg (by decide), if_pos rfl, if_neg (by decide), if_neg (by decide), if_neg (by decide), if_pos rfl, (h1 z).1, h3]
    rfl
  · rw [if_neg (by decide), if_neg (by decide), if_neg (by decide), if_neg (by decide), if_neg (by decide), if_neg (by decide), if_neg (by decide), if_neg (by decide), h1, h2]
    rfl
theorem st3_lt {w a b c : Int} {od : Nat} {tt : Nat → Nat} (h : StM w a b c od tt) (ho : od = 0) (hw : w = 3) : tt 0 < 6 := by
  unfold StM at h
  rcases h with ⟨e, -⟩ | ⟨e, -⟩ | ⟨e, -⟩ | ⟨-, h1, -⟩ | ⟨e, -⟩
  · omega
  · omega
  · omega
  · exact (h1 ho).2
  · omega
section MAU
variable {l : Launch} {E : XE}
theorem m_X7_fits_any (S : SaleN) (X : ModN) (K : Option (Nat → Nat)) (z : Int) (hz : 0 ≤ z ∧ z ≤ 4) (ht : ∀ j, j < wln z → X.tt j ≤ 99) (ho : X.od ≤ 1) (hca : S.ca ≤ 10) : MetE l E mX7_fits 0 0 0 [.ref 0, .int (zI z)] (modW 0 S X K) (fun r w' => r = some (.int (nI (b01 (fitB S X.tt X.od z)))) ∧ w' = modW 0 S X K) := by
  have key : ∀ {A : Prop} [Decidable A], (A ↔ fitB S X.tt X.od z) → ∀ (r : Option Value) (w' : AW), (r = some (.int (nI (b01 A))) ∧ w' = modW 0 S X K) → (r = some (.int (nI (b01 (fitB S X.tt X.od z)))) ∧ w' = modW 0 S X K) := fun h r w' q => ⟨q.1.trans (congrArg (fun t => some (Value.int (nI t))) (b01_c h)), q.2⟩
  rcases (show z = 0 ∨ z = 1 ∨ z = 2 ∨ z = 3 ∨ z = 4 from by omega) with rfl | rfl | rfl | rfl | rfl
  · rw [show zI 0 = nI 0 from by decide]
    exact (m_X7_fits_0 S X K ht ho hca).mono (key (by unfold fitB; omega))
  · rw [show zI 1 = nI 1 from by decide]
    exact (m_X7_fits_1 S X K ht ho hca).mono (key (by unfold fitB; omega))
  · rw [show zI 2 = nI 2 from by decide]
    exact (m_X7_fits_2 S X K ht ho hca).mono (key (by unfold fitB; omega))
  · rw [show zI 3 = nI 3 from by decide]
    exact (m_X7_fits_3 S X K ht ho hca).mono (key (by unfold fitB; omega))
  · rw [show zI 4 = nI 4 from by decide]
    exact (m_X7_fits_4 S X K ht ho hca).mono (key (by unfold fitB; omega))
theorem m_X7_comes_any (S : SaleN) (X : ModN) (K : Option (Nat → Nat)) (z : Int) (hf : fitB S X.tt X.od z) (h3 : z = 3 → X.tt 0 < 6) (hca : S.ca ≤ 10) : MetE l E mX7_comes 0 0 0 [.ref 0, .int (zI z)] (modW 0 S X K) (fun r w' => r = none ∧ w' = modW 0 (doM S X.tt z) ((X.rf, X.wo, X.ta, X.ow, 1, X.sh, X.lt, X.ty, X.pl, X.nu, X.od, X.tt, X.oo, X.on, X.wn, X.pd, X.li, X.rr, X.rn, X.dr) : ModN) K) := by
  rcases hf.2 with ⟨rfl, h⟩ | ⟨rfl, h⟩ | ⟨rfl, h⟩ | ⟨rfl, h⟩ | ⟨rfl, h⟩
  · rw [show zI 0 = nI 0 from by decide]
    exact m_X7_comes_0 S X K h.2.2
  · rw [show zI 1 = nI 1 from by decide]
    exact m_X7_comes_1 S X K (by omega)
  · rw [show zI 2 = nI 2 from by decide]
    exact m_X7_comes_2 S X K h.1
  · rw [show zI 3 = nI 3 from by decide]
    exact m_X7_comes_3 S X K (h3 rfl)
  · rw [show zI 4 = nI 4 from by decide]
    exact m_X7_comes_4 S X K (by omega)
theorem m_X7_statement_any (S : SaleN) (X : ModN) (K : Option (Nat → Nat)) (hT : X.ty ≤ 96) (hL : ∀ k, k < X.ty → X.lt k ≤ 255) (hp : X.pl ≤ X.ty) : MetE l E mX7_statement 8 0 0 [.ref 0] (modW 0 S X K) (fun r w' => ∃ (z : Int) (pl nu od : Nat) (tt : Nat → Nat), r = some (.int (zI z)) ∧ w' = modW 0 S ((X.rf, X.wo, X.ta, X.ow, X.sl, X.sh, X.lt, X.ty, pl, nu, od, tt, X.oo, X.on, X.wn, X.pd, X.li, X.rr, X.rn, X.dr) : ModN) K ∧ od ≤ 1 ∧ StP X.lt X.ty X.pl z pl od tt) := by
  have hb : -1 ≤ (rdWord X.lt X.ty X.pl).1 ∧ (rdWord X.lt X.ty X.pl).1 ≤ 4 := word_z
  rcases (show (rdWord X.lt X.ty X.pl).1 = -1 ∨ (rdWord X.lt X.ty X.pl).1 = 0 ∨ (rdWord X.lt X.ty X.pl).1 = 1 ∨ (rdWord X.lt X.ty X.pl).1 = 2 ∨ (rdWord X.lt X.ty X.pl).1 = 3 ∨ (rdWord X.lt X.ty X.pl).1 = 4 from by omega) with h | h | h | h | h | h
  · exact m_X7_statement_f S X K hT hL hp h
  · exact m_X7_statement_0 S X K hT hL hp h
  · exact m_X7_statement_1 S X K hT hL hp h
  · exact m_X7_statement_2 S X K hT hL hp h
  · exact m_X7_statement_3 S X K hT hL hp h
  · exact m_X7_statement_4 S X K hT hL hp h
theorem sub_z (a : Int) (n : Nat) : zI a - nI n = zI (a - ((n : Nat) : Int)) := by
  rw [← zI_nat, zI_sub]
theorem og_step {C : ScrN} {sn j : Nat} {U S : SaleN} (hj : j < sn) (h : oGo C (sn - j) j U = oGo C sn 0 S) (hk : stOk U (C.wd j) (C.f1 j) (C.f2 j) (C.f3 j)) : oGo C (sn - (j + 1)) (j + 1) (stDo U (C.wd j) (C.f1 j) (C.f2 j) (C.f3 j)) = oGo C sn 0 S := by
  rw [← h, show sn - j = (sn - (j + 1)) + 1 by omega, oGo_s, if_pos hk]
theorem og_fault {C : ScrN} {j : Nat} {U S : SaleN} (hj : j < C.sn) (h : oGo C (C.sn - j) j U = oGo C C.sn 0 S) (hk : ¬ stOk U (C.wd j) (C.f1 j) (C.f2 j) (C.f3 j)) : obZ C S = -2000 - ((C.st j : Nat) : Int) ∧ obS C S = S := by
  have e : oGo C C.sn 0 S = (((C.st j : Nat) : Int), U) := by
    rw [← h, show C.sn - j = (C.sn - (j + 1)) + 1 by omega, oGo_s, if_neg hk]
  have h9 : ¬ ((C.st j : Nat) : Int) = -9 := by omega
  unfold obZ obS
  rw [e]
  exact ⟨if_neg h9, if_neg h9⟩
theorem og_end {C : ScrN} {U S : SaleN} (h : oGo C (C.sn - C.sn) C.sn U = oGo C C.sn 0 S) : obZ C S = ((C.sn : Nat) : Int) ∧ obS C S = U := by
  rw [Nat.sub_self] at h
  have e : oGo C C.sn 0 S = (-9, U) := h.symm
  unfold obZ obS
  rw [e]
  exact ⟨if_pos rfl, if_pos rfl⟩
end MAU

