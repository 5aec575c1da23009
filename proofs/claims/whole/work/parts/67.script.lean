def pGo : Nat → ScrN → ScrN
  | 0, C => C
  | f + 1, C => if C.fa = -9 ∧ C.pl < C.sz then pGo f (stpS C) else C
theorem pGo_s {f : Nat} {C : ScrN} : pGo (f + 1) C = if C.fa = -9 ∧ C.pl < C.sz then pGo f (stpS C) else C := rfl
/-- all statements of the letters -/
def prsS (C : ScrN) : ScrN := pGo 16 (stpS (C.lt, C.st, C.wd, C.f1, C.f2, C.f3, C.sz, 0, -9, 0))
def ScrI (n : Nat) (lt : Nat → Nat) (C : ScrN) : Prop := C.sz = n ∧ C.lt = lt ∧ PFok C.sz (C.pl, C.fa) ∧ StOK C
theorem step_i {n : Nat} {lt : Nat → Nat} {C : ScrN} (hn : n ≤ 96) (h : ScrI n lt C) : ScrI n lt (stpS C) := by
  obtain ⟨h1, h2, h3, h4⟩ := h
  have hs := stp_same (C := C)
  refine ⟨hs.2.1.trans h1, hs.1.trans h2, ?_, stp_ok (by omega) h3.1 h4⟩
  rw [hs.2.1, hs.2.2.1, hs.2.2.2]
  exact stE_ok h3.1
theorem pGo_i {n : Nat} {lt : Nat → Nat} (hn : n ≤ 96) : ∀ f C, ScrI n lt C → ScrI n lt (pGo f C)
  | 0, _, h => h
  | f + 1, C, h => by
    rw [pGo_s]
    split
    · exact pGo_i hn f _ (step_i hn h)
    · exact h
theorem ini_i {C : ScrN} : ScrI C.sz C.lt (C.lt, C.st, C.wd, C.f1, C.f2, C.f3, C.sz, 0, -9, 0) := ⟨rfl, rfl, ⟨Nat.zero_le _, Or.inl rfl⟩, ⟨Nat.zero_le _, fun s hs => absurd hs (Nat.not_lt_zero s)⟩⟩
theorem prs_i {C : ScrN} (hz : C.sz ≤ 96) : ScrI C.sz C.lt (prsS C) := pGo_i hz 16 _ (step_i hz ini_i)
/-- whether a statement can be done, and what it does -/
abbrev stOk (S : SaleN) (w a b c : Int) : Prop := (w = 0 ∧ (0 ≤ a ∧ a < 5) ∧ b ≠ -1 ∧ 0 < c ∧ S.ca < 10) ∨ (w = 1 ∧ 0 ≤ a ∧ a < ((S.ca : Nat) : Int)) ∨ (w = 2 ∧ (0 ≤ a ∧ a < 5) ∧ b < 6 ∧ c ≤ 9) ∨ (w = 3 ∧ (0 ≤ a ∧ a < 6) ∧ b ≤ 9) ∨ (w = 4 ∧ (0 ≤ a ∧ a < ((S.ca : Nat) : Int)) ∧ 0 < b)
def stDo (S : SaleN) (w a b c : Int) : SaleN := if w = 0 then addS S a.toNat b.toNat c.toNat else if w = 1 then turnS S a.toNat else if w = 2 then kindS S a.toNat b.toNat c.toNat else if w = 3 then keepS S a.toNat b.toNat else priceS S a.toNat b.toNat
def oGo (C : ScrN) : Nat → Nat → SaleN → Int × SaleN
  | 0, _, U => (-9, U)
  | f + 1, s, U => if stOk U (C.wd s) (C.f1 s) (C.f2 s) (C.f3 s) then oGo C f (s + 1) (stDo U (C.wd s) (C.f1 s) (C.f2 s) (C.f3 s)) else (((C.st s : Nat) : Int), U)
theorem oGo_s {C : ScrN} {f s : Nat} {U : SaleN} : oGo C (f + 1) s U = if stOk U (C.wd s) (C.f1 s) (C.f2 s) (C.f3 s) then oGo C f (s + 1) (stDo U (C.wd s) (C.f1 s) (C.f2 s) (C.f3 s)) else (((C.st s : Nat) : Int), U) := rfl
/-- the bounds of one statement -/
def OneOK (w a b c : Int) : Prop := (0 ≤ w ∧ w ≤ 4) ∧ (0 ≤ a ∧ a ≤ 99) ∧ (-1 ≤ b ∧ b ≤ 99) ∧ (0 ≤ c ∧ c ≤ 99) ∧ (w = 0 → b = -1 ∨ (1 ≤ b ∧ b ≤ 63)) ∧ (w ≠ 0 → 0 ≤ b)
theorem do_ok {S : SaleN} {w a b c : Int} (hS : SaleOK S) (h1 : OneOK w a b c) (h : stOk S w a b c) : SaleOK (stDo S w a b c) := by
  obtain ⟨hw, ha, hb, hc, hb0, hb1⟩ := h1
  unfold stDo
  rcases h with h | h | h | h | h
  · obtain ⟨rfl, h2, h3, h4, h5⟩ := h
    rw [if_pos rfl]
    exact add_ok hS (by omega) (by have := hb0 rfl; omega) (by omega) h5
  · obtain ⟨rfl, h2, h3⟩ := h
    rw [if_neg (by omega), if_pos rfl]
    exact turn_ok hS (by omega)
  · obtain ⟨rfl, h2, h3, h4⟩ := h
    rw [if_neg (by omega), if_neg (by omega), if_pos rfl]
    exact kind_ok hS (by omega) (by omega)
  · obtain ⟨rfl, h2, h3⟩ := h
    rw [if_neg (by omega), if_neg (by omega), if_neg (by omega), if_pos rfl]
    exact keep_ok hS (by omega)
  · obtain ⟨rfl, h2, h3⟩ := h
    rw [if_neg (by omega), if_neg (by omega), if_neg (by omega), if_neg (by omega)]
    exact price_ok hS (by omega)
theorem do_pr {S : SaleN} {w a b c : Int} (hp : ∀ k, k < S.ca → 1 ≤ S.pr k) (h : stOk S w a b c) : ∀ k, k < (stDo S w a b c).ca → 1 ≤ (stDo S w a b c).pr k := by
  unfold stDo
  rcases h with h | h | h | h | h
  · obtain ⟨rfl, h2, h3, h4, h5⟩ := h
    rw [if_pos rfl]
    intro k hk
    show 1 ≤ up S.pr S.ca c.toNat k
    by_cases e : k = S.ca
    · subst e; rw [up_at]; omega
    · rw [up_ne e]; exact hp k (by have : k < S.ca + 1 := hk; omega)
  · obtain ⟨rfl, h2, h3⟩ := h
    rw [if_neg (by omega), if_pos rfl]
    exact hp
  · obtain ⟨rfl, h2, h3, h4⟩ := h
    rw [if_neg (by omega), if_neg (by omega), if_pos rfl]
    exact hp
  · obtain ⟨rfl, h2, h3⟩ := h
    rw [if_neg (by omega), if_neg (by omega), if_neg (by omega), if_pos rfl]
    exact hp
  · obtain ⟨rfl, h2, h3⟩ := h
    rw [if_neg (by omega), if_neg (by omega), if_neg (by omega), if_neg (by omega)]
    intro k hk
    show 1 ≤ up S.pr a.toNat b.toNat k
    by_cases e : k = a.toNat
    · rw [e, up_at]; omega
    · rw [up_ne e]; exact hp k hk
theorem st_one {C : ScrN} (h : StOK C) {s : Nat} (hs : s < C.sn) : OneOK (C.wd s) (C.f1 s) (C.f2 s) (C.f3 s) := (h.2 s hs).2
theorem oGo_ok {C : ScrN} (h : StOK C) : ∀ f s U, s + f ≤ C.sn → SaleOK U → SaleOK (oGo C f s U).2
  | 0, _, _, _, hU => hU
  | f + 1, s, U, hs, hU => by
    rw [oGo_s]
    split
    · rename_i hk
      exact oGo_ok h f _ _ (by omega) (do_ok hU (st_one h (by omega)) hk)
    · exact hU
theorem oGo_pr {C : ScrN} : ∀ f s (U : SaleN), (∀ k, k < U.ca → 1 ≤ U.pr k) → ∀ k, k < (oGo C f s U).2.ca → 1 ≤ (oGo C f s U).2.pr k
  | 0, _, _, hU => hU
  | f + 1, s, U, hU => by
    rw [oGo_s]
    split
    · rename_i hk
      exact oGo_pr f _ _ (do_pr hU hk)
    · exact hU
theorem oGo_b {C : ScrN} (h : StOK C) : ∀ f s U, s + f ≤ C.sn → (oGo C f s U).1 = -9 ∨ (0 ≤ (oGo C f s U).1 ∧ (oGo C f s U).1 ≤ 96)
  | 0, _, _, _ => Or.inl rfl
  | f + 1, s, U, hs => by
    rw [oGo_s]
    split
    · exact oGo_b h f _ _ (by omega)
    · have := (h.2 s (by omega)).1
      refine Or.inr ⟨?_, ?_⟩
      · show (0 : Int) ≤ ((C.st s : Nat) : Int); omega
      · show ((C.st s : Nat) : Int) ≤ 96; omega

theorem bX4_parse_0_8 {l : Launch} {E : XE} : Snd l E mX4_parse 0 8 (xs [x_aload 0, x_push (.int (nI 0)), x_puti 5 7, x_aload 0, x_push (.int (-9))]) := Snd.cons (snd_aload_n (i := 0) dX4_parse_0 rfl) (Snd.cons (snd_iconst (v := nI 0) dX4_parse_1 (by decide)) (Snd.cons (snd_puti (ci := 5) (k := 7) dX4_parse_2 rfl inX4 tyX4_ok nmX4 (by decide) tw_168 rfl rfl) (Snd.cons (snd_aload_n (i := 0) dX4_parse_5 rfl) (Snd.cons (snd_bipush (v := -9) dX4_parse_6 (by decide)) Snd.nil))))
theorem bX4_parse_8_17 {l : Launch} {E : XE} : Snd l E mX4_parse 8 17 (xs [x_puti 5 8, x_aload 0, x_push (.int (nI 0)), x_puti 5 9, x_aload 0]) := Snd.cons (snd_puti (ci := 5) (k := 8) dX4_parse_8 rfl inX4 tyX4_ok nmX4 (by decide) tw_169 rfl rfl) (Snd.cons (snd_aload_n (i := 0) dX4_parse_11 rfl) (Snd.cons (snd_iconst (v := nI 0) dX4_parse_12 (by decide)) (Snd.cons (snd_puti (ci := 5) (k := 9) dX4_parse_13 rfl inX4 tyX4_ok nmX4 (by decide) tw_170 rfl rfl) (Snd.cons (snd_aload_n (i := 0) dX4_parse_16 rfl) Snd.nil))))
theorem bX4_parse_20_22 {l : Launch} {E : XE} : Snd l E mX4_parse 20 22 (xs [x_push (.int (nI 0)), x_istore 1]) := Snd.cons (snd_iconst (v := nI 0) dX4_parse_20 (by decide)) (Snd.cons (snd_istore_n (i := 1) dX4_parse_21 rfl (by decide)) Snd.nil)
theorem bX4_parse_22_25 {l : Launch} {E : XE} : Snd l E mX4_parse 22 25 (xs [x_iload 1, x_push (.int (nI 16))]) := Snd.cons (snd_iload_n (i := 1) dX4_parse_22 rfl) (Snd.cons (snd_bipush (v := nI 16) dX4_parse_23 (by decide)) Snd.nil)
theorem bX4_parse_58_62 {l : Launch} {E : XE} : Snd l E mX4_parse 58 62 (xs [x_aload 0, x_get 5 8]) := Snd.cons (snd_aload_n (i := 0) dX4_parse_58 rfl) (Snd.cons (snd_get (ci := 5) (k := 8) dX4_parse_59 rfl inX4 (by decide) tw_169) Snd.nil)
theorem bX4_parse_28_34 {l : Launch} {E : XE} : Snd l E mX4_parse 28 34 (xs [x_aload 0, x_get 5 8, x_push (.int (-9))]) := Snd.cons (snd_aload_n (i := 0) dX4_parse_28 rfl) (Snd.cons (snd_get (ci := 5) (k := 8) dX4_parse_29 rfl inX4 (by decide) tw_169) (Snd.cons (snd_bipush (v := -9) dX4_parse_32 (by decide)) Snd.nil))
theorem bX4_parse_37_45 {l : Launch} {E : XE} : Snd l E mX4_parse 37 45 (xs [x_aload 0, x_get 5 7, x_aload 0, x_get 5 6]) := Snd.cons (snd_aload_n (i := 0) dX4_parse_37 rfl) (Snd.cons (snd_get (ci := 5) (k := 7) dX4_parse_38 rfl inX4 (by decide) tw_168) (Snd.cons (snd_aload_n (i := 0) dX4_parse_41 rfl) (Snd.cons (snd_get (ci := 5) (k := 6) dX4_parse_42 rfl inX4 (by decide) tw_166) Snd.nil)))
theorem bX4_parse_48_49 {l : Launch} {E : XE} : Snd l E mX4_parse 48 49 (xs [x_aload 0]) := Snd.cons (snd_aload_n (i := 0) dX4_parse_48 rfl) Snd.nil
theorem bX4_parse_55_22 {l : Launch} {E : XE} : Snd l E mX4_parse 55 22 (xs [x_id]) := Snd.cons (snd_goto (tgt := 22) dX4_parse_55 (by decide)) Snd.nil
set_option maxHeartbeats 4000000 in
set_option maxRecDepth 100000 in
theorem m_X4_parse {l : Launch} {E : XE} (C : ScrN) (hC : ScrOK C) : MetE l E mX4_parse (10) 0 0 [.ref 0] (scrW 0 C) (fun r w' => r = some (.int (zI ((prsS C).fa))) ∧ w' = scrW 0 (prsS C)) := by
  refine MetE.of (by decide +kernel) (Nat.le_of_ble_eq_true rfl) ?_
  have hsz := hC.1
  have i0 := step_i hsz (ini_i (C := C))
  refine ev_eq (lv' := [(0, .ref 0)]) (st' := []) (w' := scrW 0 C) rfl rfl rfl ?_
  refine ev_b bX4_parse_0_8 (lv' := [(0, .ref 0)]) (st' := [.int (-9), .ref 0]) (w2 := scrW 0 ((C.lt, C.st, C.wd, C.f1, C.f2, C.f3, C.sz, 0, C.fa, C.sn) : ScrN)) rfl ?_
  refine ev_top (y := zI (-9)) (by decide) ?_
  refine ev_b bX4_parse_8_17 (lv' := [(0, .ref 0)]) (st' := [.ref 0]) (w2 := scrW 0 ((C.lt, C.st, C.wd, C.f1, C.f2, C.f3, C.sz, 0, -9, 0) : ScrN)) rfl ?_
  refine ev_callV (Yc := mX4_readStatement) [0, 1, 2, 3, 4, 5, 6] dX4_parse_17 tw_269 kX4_readStatement (m_X4_readStatement (C.lt, C.st, C.wd, C.f1, C.f2, C.f3, C.sz, 0, -9, 0) hC ini_i.2.2.1 rfl ini_i.2.2.2) rfl (st := []) rfl rfl rfl (by decide) rfl (by decide) (Nat.le_of_ble_eq_true rfl) (Nat.le_refl _) (Nat.le_refl _) (fun r w' h => by obtain ⟨-, rfl⟩ := h; exact Nat.le_of_ble_eq_true rfl) ?_
  rintro _ _ ⟨rfl, rfl⟩
  refine ev_eq (lv' := [(0, .ref 0)]) (st' := []) (w' := scrW 0 (stpS (C.lt, C.st, C.wd, C.f1, C.f2, C.f3, C.sz, 0, -9, 0))) rfl rfl rfl ?_
  refine ev_b bX4_parse_20_22 (lv' := [(1, .int (nI (0))), (0, .ref 0)]) (st' := []) (w2 := scrW 0 (stpS (C.lt, C.st, C.wd, C.f1, C.f2, C.f3, C.sz, 0, -9, 0))) rfl ?_
  have L22 : ∀ (j_ k : Nat), k + j_ = 16 → ∀ (D : ScrN), (ScrI C.sz C.lt D ∧ pGo (16 - k) D = prsS C) → Ev l E mX4_parse (10) 0 0 (scrW 0 C) (fun r w' => r = some (.int (zI ((prsS C).fa))) ∧ w' = scrW 0 (prsS C)) 0 0 22 [(1, .int (nI (k))), (0, .ref 0)] [] (scrW 0 D) := by
    intro j_
    induction j_ with
    | zero =>
      intro k hk22 D hinv22
      replace hk22 : k = 16 := hk22
      subst hk22
      obtain ⟨hDz, hDl, ⟨hDp, hDf⟩, hDs⟩ := hinv22.1
      have hD : ScrOK D := ⟨by omega, by rw [hDz, hDl]; exact hC.2⟩
      have hDb : -9 ≤ D.fa ∧ D.fa ≤ 96 := by
        have h := hDf
        dsimp only at h
        omega
      have hDq : D.pl ≤ D.sz := hDp
      refine ev_b bX4_parse_22_25 (lv' := [(1, .int (nI (16))), (0, .ref 0)]) (st' := [.int (nI (16)), .int (nI (16))]) (w2 := scrW 0 D) rfl ?_
      refine ev_icmp_ge_n (tgt := 58) (by decide) (by decide) dX4_parse_25 (by decide) (fun h25 => ?_) (fun h25 => (by exfalso; omega))
      have hE : D = prsS C := by first | (rw [← hinv22.2, show 16 - k = (15 - k) + 1 by omega, pGo_s, if_neg (by omega)]) | exact hinv22.2
      refine ev_b bX4_parse_58_62 (lv' := [(1, .int (nI (16))), (0, .ref 0)]) (st' := [.int (zI (D.fa))]) (w2 := scrW 0 D) rfl ?_
      exact ev_iret dX4_parse_62 rfl (Nat.le_of_ble_eq_true rfl) (Nat.le_refl _) (Nat.le_refl _) ⟨(congrArg (fun t => some (Value.int (zI t))) (show D.fa = (prsS C).fa from by rw [hE])), (by rw [hE])⟩
    | succ j_ ih22 =>
      intro k hk22 D hinv22
      have hlt22 : k < 16 := by omega
      obtain ⟨hDz, hDl, ⟨hDp, hDf⟩, hDs⟩ := hinv22.1
      have hD : ScrOK D := ⟨by omega, by rw [hDz, hDl]; exact hC.2⟩
      have hDb : -9 ≤ D.fa ∧ D.fa ≤ 96 := by
        have h := hDf
        dsimp only at h
        omega
      have hDq : D.pl ≤ D.sz := hDp
      refine ev_b bX4_parse_22_25 (lv' := [(1, .int (nI (k))), (0, .ref 0)]) (st' := [.int (nI (16)), .int (nI (k))]) (w2 := scrW 0 D) rfl ?_
      refine ev_icmp_ge_n (tgt := 58) (by omega) (by decide) dX4_parse_25 (by decide) (fun h25 => (by exfalso; omega)) (fun h25 => ?_)
      refine ev_b bX4_parse_28_34 (lv' := [(1, .int (nI (k))), (0, .ref 0)]) (st' := [.int (-9), .int (zI (D.fa))]) (w2 := scrW 0 D) rfl ?_
      refine ev_top (y := zI (-9)) (by decide) ?_
      refine ev_icmp_ne_z (tgt := 58) (by constructor <;> omega) (by constructor <;> omega) dX4_parse_34 (by decide) (fun h34 => ?_) (fun h34 => ?_)
      · skip
        have hE : D = prsS C := by first | (rw [← hinv22.2, show 16 - k = (15 - k) + 1 by omega, pGo_s, if_neg (by omega)]) | exact hinv22.2
        refine ev_b bX4_parse_58_62 (lv' := [(1, .int (nI (k))), (0, .ref 0)]) (st' := [.int (zI (D.fa))]) (w2 := scrW 0 D) rfl ?_
        exact ev_iret dX4_parse_62 rfl (Nat.le_of_ble_eq_true rfl) (Nat.le_refl _) (Nat.le_refl _) ⟨(congrArg (fun t => some (Value.int (zI t))) (show D.fa = (prsS C).fa from by rw [hE])), (by rw [hE])⟩
      · skip
        refine ev_b bX4_parse_37_45 (lv' := [(1, .int (nI (k))), (0, .ref 0)]) (st' := [.int (nI (D.sz)), .int (nI (D.pl))]) (w2 := scrW 0 D) rfl ?_
        refine ev_icmp_ge_n (tgt := 58) (by omega) (by omega) dX4_parse_45 (by decide) (fun h45 => ?_) (fun h45 => ?_)
        · skip
          have hE : D = prsS C := by first | (rw [← hinv22.2, show 16 - k = (15 - k) + 1 by omega, pGo_s, if_neg (by omega)]) | exact hinv22.2
          refine ev_b bX4_parse_58_62 (lv' := [(1, .int (nI (k))), (0, .ref 0)]) (st' := [.int (zI (D.fa))]) (w2 := scrW 0 D) rfl ?_
          exact ev_iret dX4_parse_62 rfl (Nat.le_of_ble_eq_true rfl) (Nat.le_refl _) (Nat.le_refl _) ⟨(congrArg (fun t => some (Value.int (zI t))) (show D.fa = (prsS C).fa from by rw [hE])), (by rw [hE])⟩
        · skip
          refine ev_b bX4_parse_48_49 (lv' := [(1, .int (nI (k))), (0, .ref 0)]) (st' := [.ref 0]) (w2 := scrW 0 D) rfl ?_
          have hnext : ScrI C.sz C.lt (stpS D) ∧ pGo (16 - (k + 1)) (stpS D) = prsS C := ⟨step_i hsz hinv22.1, by rw [← hinv22.2, show 16 - k = (16 - (k + 1)) + 1 by omega, pGo_s, if_pos ⟨h34, by omega⟩]⟩
          refine ev_callV (Yc := mX4_readStatement) [0, 1, 2, 3, 4, 5, 6] dX4_parse_49 tw_269 kX4_readStatement (m_X4_readStatement D hD ⟨hDp, hDf⟩ h34 hDs) rfl (st := []) rfl rfl rfl (by decide) rfl (by decide) (Nat.le_of_ble_eq_true rfl) (Nat.le_refl _) (Nat.le_refl _) (fun r w' h => by obtain ⟨-, rfl⟩ := h; exact Nat.le_of_ble_eq_true rfl) ?_
          rintro _ _ ⟨rfl, rfl⟩
          refine ev_eq (lv' := [(1, .int (nI (k))), (0, .ref 0)]) (st' := []) (w' := scrW 0 (stpS D)) rfl rfl rfl ?_
          refine ev_iinc_n (x := k) (v := 1) dX4_parse_52 rfl (by decide) ?_
          refine ev_eq (lv' := [(1, .int (nI (k + 1))), (0, .ref 0)]) rfl rfl rfl ?_
          refine ev_b bX4_parse_55_22 (lv' := [(1, .int (nI (k + 1))), (0, .ref 0)]) (st' := []) (w2 := scrW 0 (stpS D)) rfl ?_
          rw [show nI (k + 1) = nI ((k + 1)) from congrArg nI (by omega)]
          exact ih22 (k + 1) (by omega) _ hnext
  exact L22 16 0 (by omega) _ ⟨i0, rfl⟩
