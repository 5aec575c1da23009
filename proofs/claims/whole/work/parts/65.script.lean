/-! ===== an auction told in letters: one statement ===== -/
/-- the letter at a place; -9 behind the last -/
def sgz (lt : Nat → Nat) (n p : Nat) : Int := if p < n then ((lt p : Nat) : Int) else -9
abbrev isSm (c : Int) : Prop := 97 ≤ c ∧ c ≤ 122
abbrev isDg (c : Int) : Prop := 48 ≤ c ∧ c ≤ 57
abbrev PF : Type := Nat × Int
def rdSign (lt : Nat → Nat) (n s : Nat) (q : PF) : PF := if q.2 = -9 then (if sgz lt n q.1 = ((s : Nat) : Int) then (q.1 + 1, -9) else (q.1, ((q.1 : Nat) : Int))) else q
def rdNum (lt : Nat → Nat) (n : Nat) (q : PF) : Nat × PF := if q.2 = -9 then (if isDg (sgz lt n q.1) then (if isDg (sgz lt n (q.1 + 1)) then (10 * (lt q.1 - 48) + lt (q.1 + 1) - 48, (q.1 + 2, -9)) else (lt q.1 - 48, (q.1 + 1, -9))) else (0, (q.1, ((q.1 : Nat) : Int)))) else (0, q)
def rdItem (lt : Nat → Nat) (n : Nat) (q : PF) : Nat × PF := if q.2 = -9 then (if isSm (sgz lt n q.1) then (lt q.1 - 97, (q.1 + 1, -9)) else (0, (q.1, ((q.1 : Nat) : Int)))) else (0, q)
/-- a letter's bit, if it is one of the items and not there yet -/
def itB (x set : Nat) : Nat := andn ((1 <<< x) &&& 63) set
/-- the letters of a set from a place on: the items, 1 if they are right, the place behind them -/
def setGo (lt : Nat → Nat) (n : Nat) : Nat → Nat → Nat → Nat → Nat × Nat × Nat
  | 0, set, ok, p => (set, ok, p)
  | f + 1, set, ok, p => if isSm (sgz lt n p) then setGo lt n f (set ||| itB (lt p - 97) set) (if ok = 1 ∧ itB (lt p - 97) set ≠ 0 then 1 else 0) (p + 1) else (set, ok, p)
theorem setGo_s {lt : Nat → Nat} {n f set ok p : Nat} : setGo lt n (f + 1) set ok p = if isSm (sgz lt n p) then setGo lt n f (set ||| itB (lt p - 97) set) (if ok = 1 ∧ itB (lt p - 97) set ≠ 0 then 1 else 0) (p + 1) else (set, ok, p) := rfl
def setZ (g : Nat × Nat × Nat) : Int := if g.2.1 = 1 then ((g.1 : Nat) : Int) else -1
def rdSet0 (i : Nat × PF) : Nat × Nat := ((1 <<< i.1) &&& 63, if (1 <<< i.1) &&& 63 = 0 then 0 else 1)
def rdSet (lt : Nat → Nat) (n : Nat) (q : PF) : Int × PF :=
  if (rdItem lt n q).2.2 = -9 then (setZ (setGo lt n 96 (rdSet0 (rdItem lt n q)).1 (rdSet0 (rdItem lt n q)).2 (rdItem lt n q).2.1), ((setGo lt n 96 (rdSet0 (rdItem lt n q)).1 (rdSet0 (rdItem lt n q)).2 (rdItem lt n q).2.1).2.2, -9))
  else (setZ ((rdSet0 (rdItem lt n q)).1, (rdSet0 (rdItem lt n q)).2, 0), (rdItem lt n q).2)
def wrdEnd (lt : Nat → Nat) (n : Nat) : Nat → Nat → Nat
  | 0, p => p
  | f + 1, p => if isSm (sgz lt n p) then wrdEnd lt n f (p + 1) else p
theorem wrdEnd_s {lt : Nat → Nat} {n f p : Nat} : wrdEnd lt n (f + 1) p = if isSm (sgz lt n p) then wrdEnd lt n f (p + 1) else p := rfl
/-- whether a word's letters stand from one place to another -/
abbrev splW (lt : Nat → Nat) (w p e : Nat) : Prop := e = p + sLen.getD w 0 ∧ ∀ i, i < sLen.getD w 0 → nI (lt (p + i)) = (sByt.getD w []).getD i 0
def wordF (lt : Nat → Nat) (p e : Nat) : Int := if splW lt 0 p e then 0 else if splW lt 1 p e then 1 else if splW lt 2 p e then 2 else if splW lt 3 p e then 3 else if splW lt 4 p e then 4 else -1
def rdWord (lt : Nat → Nat) (n p : Nat) : Int × PF := (wordF lt p (wrdEnd lt n 96 p), (wrdEnd lt n 96 p, if wordF lt p (wrdEnd lt n 96 p) = -1 then ((p : Nat) : Int) else -9))
def natZ (x : Nat × PF) : Int × PF := (((x.1 : Nat) : Int), x.2)
def stA (lt : Nat → Nat) (n p : Nat) : Int × PF := natZ (if (rdWord lt n p).1 = 3 then rdItem lt n (rdSign lt n 32 (rdWord lt n p).2) else rdNum lt n (rdSign lt n 32 (rdWord lt n p).2))
def stB (lt : Nat → Nat) (n p : Nat) : Int × PF := if (rdWord lt n p).1 = 1 then (0, (stA lt n p).2) else if (rdWord lt n p).1 = 0 then rdSet lt n (rdSign lt n 32 (stA lt n p).2) else natZ (rdNum lt n (rdSign lt n 32 (stA lt n p).2))
def stC (lt : Nat → Nat) (n p : Nat) : Int × PF := if (rdWord lt n p).1 = 0 ∨ (rdWord lt n p).1 = 2 then natZ (rdNum lt n (rdSign lt n 32 (stB lt n p).2)) else (0, (stB lt n p).2)
def stE (lt : Nat → Nat) (n p : Nat) : PF := rdSign lt n 59 (stC lt n p).2
/-- bounds -/
def PFok (n : Nat) (q : PF) : Prop := q.1 ≤ n ∧ (q.2 = -9 ∨ (0 ≤ q.2 ∧ q.2 ≤ ((n : Nat) : Int)))
theorem sgz_lt {lt : Nat → Nat} {n p : Nat} (h : sgz lt n p ≠ -9) : p < n ∧ sgz lt n p = ((lt p : Nat) : Int) := by
  unfold sgz at h ⊢
  by_cases hp : p < n
  · rw [if_pos hp]; exact ⟨hp, rfl⟩
  · rw [if_neg hp] at h; exact absurd rfl h
theorem sgz_bnd {lt : Nat → Nat} {n p : Nat} (h : ∀ k, k < n → lt k ≤ 255) : -9 ≤ sgz lt n p ∧ sgz lt n p ≤ 255 := by
  unfold sgz
  split
  · rename_i hp
    have := h p hp
    omega
  · omega
theorem sign_ok {lt : Nat → Nat} {n s : Nat} {q : PF} (h : PFok n q) : PFok n (rdSign lt n s q) := by
  unfold rdSign
  split
  · split
    · rename_i h2
      have := (sgz_lt (lt := lt) (n := n) (p := q.1) (by rw [h2]; omega)).1
      exact ⟨this, Or.inl rfl⟩
    · exact ⟨h.1, Or.inr ⟨by show (0 : Int) ≤ ((q.1 : Nat) : Int); omega, by have := h.1; show ((q.1 : Nat) : Int) ≤ ((n : Nat) : Int); omega⟩⟩
  · exact h
theorem num_ok {lt : Nat → Nat} {n : Nat} {q : PF} (h : PFok n q) : PFok n (rdNum lt n q).2 := by
  unfold rdNum
  split
  · split
    · rename_i h2
      have h3 := (sgz_lt (lt := lt) (n := n) (p := q.1) (by omega)).1
      split
      · rename_i h4
        have h5 := (sgz_lt (lt := lt) (n := n) (p := q.1 + 1) (by omega)).1
        exact ⟨h5, Or.inl rfl⟩
      · exact ⟨h3, Or.inl rfl⟩
    · exact ⟨h.1, Or.inr ⟨by show (0 : Int) ≤ ((q.1 : Nat) : Int); omega, by have := h.1; show ((q.1 : Nat) : Int) ≤ ((n : Nat) : Int); omega⟩⟩
  · exact h
theorem item_ok {lt : Nat → Nat} {n : Nat} {q : PF} (h : PFok n q) : PFok n (rdItem lt n q).2 := by
  unfold rdItem
  split
  · split
    · rename_i h2
      exact ⟨(sgz_lt (lt := lt) (n := n) (p := q.1) (by omega)).1, Or.inl rfl⟩
    · exact ⟨h.1, Or.inr ⟨by show (0 : Int) ≤ ((q.1 : Nat) : Int); omega, by have := h.1; show ((q.1 : Nat) : Int) ≤ ((n : Nat) : Int); omega⟩⟩
  · exact h
theorem setGo_le {lt : Nat → Nat} {n : Nat} : ∀ f set ok p, p ≤ n → (setGo lt n f set ok p).2.2 ≤ n
  | 0, _, _, _, h => h
  | f + 1, set, ok, p, h => by
    rw [setGo_s]
    split
    · rename_i h2
      exact setGo_le f _ _ _ (sgz_lt (lt := lt) (n := n) (p := p) (by omega)).1
    · exact h
theorem set_ok {lt : Nat → Nat} {n : Nat} {q : PF} (h : PFok n q) : PFok n (rdSet lt n q).2 := by
  have h1 := item_ok (lt := lt) h
  unfold rdSet
  split
  · exact ⟨setGo_le 96 _ _ _ h1.1, Or.inl rfl⟩
  · exact h1
theorem wrdEnd_le {lt : Nat → Nat} {n : Nat} : ∀ f p, p ≤ n → p ≤ wrdEnd lt n f p ∧ wrdEnd lt n f p ≤ n
  | 0, p, h => ⟨Nat.le_refl _, h⟩
  | f + 1, p, h => by
    rw [wrdEnd_s]
    split
    · rename_i h2
      have := wrdEnd_le (lt := lt) f (p + 1) (sgz_lt (lt := lt) (n := n) (p := p) (by omega)).1
      omega
    · exact ⟨Nat.le_refl _, h⟩
theorem word_ok {lt : Nat → Nat} {n p : Nat} (h : p ≤ n) : PFok n (rdWord lt n p).2 := by
  refine ⟨(wrdEnd_le (lt := lt) 96 p h).2, ?_⟩
  by_cases h2 : wordF lt p (wrdEnd lt n 96 p) = -1
  · have e : (rdWord lt n p).2.2 = ((p : Nat) : Int) := if_pos h2
    rw [e]
    exact Or.inr ⟨by omega, by omega⟩
  · exact Or.inl (if_neg h2)
theorem word_z {lt : Nat → Nat} {p e : Nat} : -1 ≤ wordF lt p e ∧ wordF lt p e ≤ 4 := by
  unfold wordF
  repeat' split
  all_goals omega
theorem stA_ok {lt : Nat → Nat} {n p : Nat} (h : p ≤ n) : PFok n (stA lt n p).2 := by
  unfold stA natZ
  have h1 := sign_ok (lt := lt) (s := 32) (word_ok (lt := lt) h)
  split
  · exact item_ok h1
  · exact num_ok h1
theorem stB_ok {lt : Nat → Nat} {n p : Nat} (h : p ≤ n) : PFok n (stB lt n p).2 := by
  unfold stB natZ
  have h1 := stA_ok (lt := lt) h
  split
  · exact h1
  · split
    · exact set_ok (sign_ok h1)
    · exact num_ok (sign_ok h1)
theorem stC_ok {lt : Nat → Nat} {n p : Nat} (h : p ≤ n) : PFok n (stC lt n p).2 := by
  unfold stC natZ
  have h1 := stB_ok (lt := lt) h
  split
  · exact num_ok (sign_ok h1)
  · exact h1
theorem stE_ok {lt : Nat → Nat} {n p : Nat} (h : p ≤ n) : PFok n (stE lt n p) := sign_ok (stC_ok h)
def ScrOK (C : ScrN) : Prop := C.sz ≤ 96 ∧ ∀ k, k < C.sz → C.lt k ≤ 255
theorem itB_lt {x set : Nat} : itB x set < 64 := by
  have h : (1 <<< x) &&& 63 ≤ 63 := Nat.and_le_right
  have h2 : itB x set ≤ (1 <<< x) &&& 63 := andn_le _ _
  omega
theorem rdSet0_b {i : Nat × PF} : (rdSet0 i).1 < 64 ∧ (rdSet0 i).2 ≤ 1 := by
  have h : (1 <<< i.1) &&& 63 ≤ 63 := Nat.and_le_right
  refine ⟨?_, ?_⟩
  · show (1 <<< i.1) &&& 63 < 64
    omega
  · unfold rdSet0
    dsimp only
    split <;> omega
theorem item_x {lt : Nat → Nat} {n : Nat} {q : PF} : (rdItem lt n q).1 ≤ 25 := by
  unfold rdItem
  split
  · split
    · rename_i h2
      have h3 := sgz_lt (lt := lt) (n := n) (p := q.1) (by omega)
      show lt q.1 - 97 ≤ 25
      omega
    · exact Nat.zero_le _
  · exact Nat.zero_le _
theorem setGo_b {lt : Nat → Nat} {n : Nat} : ∀ f set ok p, set < 64 → ok ≤ 1 → (setGo lt n f set ok p).1 < 64 ∧ (setGo lt n f set ok p).2.1 ≤ 1
  | 0, _, _, _, h, h1 => ⟨h, h1⟩
  | f + 1, set, ok, p, h, h1 => by
    rw [setGo_s]
    split
    · refine setGo_b f _ _ _ (Nat.or_lt_two_pow (n := 6) h itB_lt) ?_
      split <;> omega
    · exact ⟨h, h1⟩
theorem setZ_b {lt : Nat → Nat} {n : Nat} {q : PF} : -1 ≤ (rdSet lt n q).1 ∧ (rdSet lt n q).1 < 64 := by
  have hz : ∀ g : Nat × Nat × Nat, g.1 < 64 → -1 ≤ setZ g ∧ setZ g < 64 := fun g hg => by
    unfold setZ
    split <;> omega
  have h0 := rdSet0_b (i := rdItem lt n q)
  unfold rdSet
  split
  · exact hz _ (setGo_b 96 _ _ _ h0.1 h0.2).1
  · exact hz _ h0.1
theorem num_b {lt : Nat → Nat} {n : Nat} {q : PF} : (rdNum lt n q).1 ≤ 99 := by
  unfold rdNum
  split
  · split
    · rename_i h2
      have h3 := sgz_lt (lt := lt) (n := n) (p := q.1) (by omega)
      split
      · rename_i h4
        have h5 := sgz_lt (lt := lt) (n := n) (p := q.1 + 1) (by omega)
        show 10 * (lt q.1 - 48) + lt (q.1 + 1) - 48 ≤ 99
        omega
      · show lt q.1 - 48 ≤ 99
        omega
    · exact Nat.zero_le _
  · exact Nat.zero_le _
theorem set_step {lt : Nat → Nat} {n k s1 o1 p1 : Nat} {G : Nat × Nat × Nat} {O : Nat} (hk : k < 96) (h44 : isSm (sgz lt n p1)) (hg : setGo lt n (96 - k) s1 o1 p1 = G) (hO : (if o1 = 1 ∧ itB (lt p1 - 97) s1 ≠ 0 then 1 else 0) = O) : setGo lt n (96 - (k + 1)) (s1 ||| itB (lt p1 - 97) s1) O (p1 + 1) = G := by
  rw [show 96 - k = (96 - (k + 1)) + 1 by omega, setGo_s, if_pos h44, hO] at hg
  exact hg
theorem set_end {lt : Nat → Nat} {n s1 o1 p1 : Nat} {q : PF} (h1 : (rdItem lt n q).2.2 = -9 → setGo lt n 96 (rdSet0 (rdItem lt n q)).1 (rdSet0 (rdItem lt n q)).2 (rdItem lt n q).2.1 = (s1, o1, p1)) (h2 : (rdItem lt n q).2.2 ≠ -9 → s1 = (rdSet0 (rdItem lt n q)).1 ∧ o1 = (rdSet0 (rdItem lt n q)).2 ∧ p1 = (rdItem lt n q).2.1) : rdSet lt n q = (setZ (s1, o1, 0), (p1, (rdItem lt n q).2.2)) := by
  unfold rdSet
  by_cases hf : (rdItem lt n q).2.2 = -9
  · rw [if_pos hf, h1 hf, hf]
    rfl
  · obtain ⟨rfl, rfl, rfl⟩ := h2 hf
    rw [if_neg hf]

theorem bX4_isSmall_0_3 {l : Launch} {E : XE} : Snd l E mX4_isSmall 0 3 (xs [x_iload 0, x_push (.int (nI 97))]) := Snd.cons (snd_iload_n (i := 0) dX4_isSmall_0 rfl) (Snd.cons (snd_bipush (v := nI 97) dX4_isSmall_1 (by decide)) Snd.nil)
theorem bX4_isSmall_16_17 {l : Launch} {E : XE} : Snd l E mX4_isSmall 16 17 (xs [x_push (.int (nI 0))]) := Snd.cons (snd_iconst (v := nI 0) dX4_isSmall_16 (by decide)) Snd.nil
theorem bX4_isSmall_6_9 {l : Launch} {E : XE} : Snd l E mX4_isSmall 6 9 (xs [x_iload 0, x_push (.int (nI 122))]) := Snd.cons (snd_iload_n (i := 0) dX4_isSmall_6 rfl) (Snd.cons (snd_bipush (v := nI 122) dX4_isSmall_7 (by decide)) Snd.nil)
theorem bX4_isSmall_12_17 {l : Launch} {E : XE} : Snd l E mX4_isSmall 12 17 (xs [x_push (.int (nI 1)), x_id]) := Snd.cons (snd_iconst (v := nI 1) dX4_isSmall_12 (by decide)) (Snd.cons (snd_goto (tgt := 17) dX4_isSmall_13 (by decide)) Snd.nil)
set_option maxHeartbeats 4000000 in
set_option maxRecDepth 100000 in
theorem m_X4_isSmall {l : Launch} {E : XE} (c : Int) (rc : -2147483648 ≤ c ∧ c < 2147483648) : MetE l E mX4_isSmall (0) 0 0 [.int (zI (c))] ([]) (fun r w' => r = some (.int (nI (b01 (isSm c)))) ∧ w' = []) := by
  refine MetE.of (by decide +kernel) (Nat.le_of_ble_eq_true rfl) ?_
  refine ev_eq (lv' := [(0, .int (zI (c)))]) (st' := []) (w' := []) rfl rfl rfl ?_
  refine ev_b bX4_isSmall_0_3 (lv' := [(0, .int (zI (c)))]) (st' := [.int (nI (97)), .int (zI (c))]) (w2 := []) rfl ?_
  refine ev_top (y := zI (((97 : Nat) : Int))) (zI_nat _).symm ?_
  refine ev_icmp_lt_z (tgt := 16) (by constructor <;> omega) (by constructor <;> omega) dX4_isSmall_3 (by decide) (fun h3 => ?_) (fun h3 => ?_)
  · skip
    refine ev_b bX4_isSmall_16_17 (lv' := [(0, .int (zI (c)))]) (st' := [.int (nI (0))]) (w2 := []) rfl ?_
    exact ev_zret dX4_isSmall_17 rfl rfl (Nat.le_of_ble_eq_true rfl) (Nat.le_refl _) (Nat.le_refl _) ⟨(congrArg (fun t => some (Value.int (nI t))) (b01_f (by omega)).symm), rfl⟩
  · skip
    refine ev_b bX4_isSmall_6_9 (lv' := [(0, .int (zI (c)))]) (st' := [.int (nI (122)), .int (zI (c))]) (w2 := []) rfl ?_
    refine ev_top (y := zI (((122 : Nat) : Int))) (zI_nat _).symm ?_
    refine ev_icmp_gt_z (tgt := 16) (by constructor <;> omega) (by constructor <;> omega) dX4_isSmall_9 (by decide) (fun h9 => ?_) (fun h9 => ?_)
    · skip
      refine ev_b bX4_isSmall_16_17 (lv' := [(0, .int (zI (c)))]) (st' := [.int (nI (0))]) (w2 := []) rfl ?_
      exact ev_zret dX4_isSmall_17 rfl rfl (Nat.le_of_ble_eq_true rfl) (Nat.le_refl _) (Nat.le_refl _) ⟨(congrArg (fun t => some (Value.int (nI t))) (b01_f (by omega)).symm), rfl⟩
    · skip
      refine ev_b bX4_isSmall_12_17 (lv' := [(0, .int (zI (c)))]) (st' := [.int (nI (1))]) (w2 := []) rfl ?_
      exact ev_zret dX4_isSmall_17 rfl rfl (Nat.le_of_ble_eq_true rfl) (Nat.le_refl _) (Nat.le_refl _) ⟨(congrArg (fun t => some (Value.int (nI t))) (b01_t (by omega)).symm), rfl⟩
theorem bX4_isDigit_0_3 {l : Launch} {E : XE} : Snd l E mX4_isDigit 0 3 (xs [x_iload 0, x_push (.int (nI 48))]) := Snd.cons (snd_iload_n (i := 0) dX4_isDigit_0 rfl) (Snd.cons (snd_bipush (v := nI 48) dX4_isDigit_1 (by decide)) Snd.nil)
theorem bX4_isDigit_16_17 {l : Launch} {E : XE} : Snd l E mX4_isDigit 16 17 (xs [x_push (.int (nI 0))]) := Snd.cons (snd_iconst (v := nI 0) dX4_isDigit_16 (by decide)) Snd.nil
theorem bX4_isDigit_6_9 {l : Launch} {E : XE} : Snd l E mX4_isDigit 6 9 (xs [x_iload 0, x_push (.int (nI 57))]) := Snd.cons (snd_iload_n (i := 0) dX4_isDigit_6 rfl) (Snd.cons (snd_bipush (v := nI 57) dX4_isDigit_7 (by decide)) Snd.nil)
theorem bX4_isDigit_12_17 {l : Launch} {E : XE} : Snd l E mX4_isDigit 12 17 (xs [x_push (.int (nI 1)), x_id]) := Snd.cons (snd_iconst (v := nI 1) dX4_isDigit_12 (by decide)) (Snd.cons (snd_goto (tgt := 17) dX4_isDigit_13 (by decide)) Snd.nil)
set_option maxHeartbeats 4000000 in
set_option maxRecDepth 100000 in
theorem m_X4_isDigit {l : Launch} {E : XE} (c : Int) (rc : -2147483648 ≤ c ∧ c < 2147483648) : MetE l E mX4_isDigit (0) 0 0 [.int (zI (c))] ([]) (fun r w' => r = some (.int (nI (b01 (isDg c)))) ∧ w' = []) := by
  refine MetE.of (by decide +kernel) (Nat.le_of_ble_eq_true rfl) ?_
  refine ev_eq (lv' := [(0, .int (zI (c)))]) (st' := []) (w' := []) rfl rfl rfl ?_
  refine ev_b bX4_isDigit_0_3 (lv' := [(0, .int (zI (c)))]) (st' := [.int (nI (48)), .int (zI (c))]) (w2 := []) rfl ?_
  refine ev_top (y := zI (((48 : Nat) : Int))) (zI_nat _).symm ?_
  refine ev_icmp_lt_z (tgt := 16) (by constructor <;> omega) (by constructor <;> omega) dX4_isDigit_3 (by decide) (fun h3 => ?_) (fun h3 => ?_)
  · skip
    refine ev_b bX4_isDigit_16_17 (lv' := [(0, .int (zI (c)))]) (st' := [.int (nI (0))]) (w2 := []) rfl ?_
    exact ev_zret dX4_isDigit_17 rfl rfl (Nat.le_of_ble_eq_true rfl) (Nat.le_refl _) (Nat.le_refl _) ⟨(congrArg (fun t => some (Value.int (nI t))) (b01_f (by omega)).symm), rfl⟩
  · skip
    refine ev_b bX4_isDigit_6_9 (lv' := [(0, .int (zI (c)))]) (st' := [.int (nI (57)), .int (zI (c))]) (w2 := []) rfl ?_
    refine ev_top (y := zI (((57 : Nat) : Int))) (zI_nat _).symm ?_
    refine ev_icmp_gt_z (tgt := 16) (by constructor <;> omega) (by constructor <;> omega) dX4_isDigit_9 (by decide) (fun h9 => ?_) (fun h9 => ?_)
    · skip
      refine ev_b bX4_isDigit_16_17 (lv' := [(0, .int (zI (c)))]) (st' := [.int (nI (0))]) (w2 := []) rfl ?_
      exact ev_zret dX4_isDigit_17 rfl rfl (Nat.le_of_ble_eq_true rfl) (Nat.le_refl _) (Nat.le_refl _) ⟨(congrArg (fun t => some (Value.int (nI t))) (b01_f (by omega)).symm), rfl⟩
    · skip
      refine ev_b bX4_isDigit_12_17 (lv' := [(0, .int (zI (c)))]) (st' := [.int (nI (1))]) (w2 := []) rfl ?_
      exact ev_zret dX4_isDigit_17 rfl rfl (Nat.le_of_ble_eq_true rfl) (Nat.le_refl _) (Nat.le_refl _) ⟨(congrArg (fun t => some (Value.int (nI t))) (b01_t (by omega)).symm), rfl⟩
theorem bX4_signHere_0_4 {l : Launch} {E : XE} : Snd l E mX4_signHere 0 4 (xs [x_aload 0, x_get 5 7]) := Snd.cons (snd_aload_n (i := 0) dX4_signHere_0 rfl) (Snd.cons (snd_get (ci := 5) (k := 7) dX4_signHere_1 rfl inX4 (by decide) tw_168) Snd.nil)
theorem bX4_signHere_7_15 {l : Launch} {E : XE} : Snd l E mX4_signHere 7 15 (xs [x_aload 0, x_get 5 7, x_aload 0, x_get 5 6]) := Snd.cons (snd_aload_n (i := 0) dX4_signHere_7 rfl) (Snd.cons (snd_get (ci := 5) (k := 7) dX4_signHere_8 rfl inX4 (by decide) tw_168) (Snd.cons (snd_aload_n (i := 0) dX4_signHere_11 rfl) (Snd.cons (snd_get (ci := 5) (k := 6) dX4_signHere_12 rfl inX4 (by decide) tw_166) Snd.nil)))
theorem bX4_signHere_39_41 {l : Launch} {E : XE} : Snd l E mX4_signHere 39 41 (xs [x_push (.int (-9))]) := Snd.cons (snd_bipush (v := -9) dX4_signHere_39 (by decide)) Snd.nil
theorem bX4_signHere_18_24 {l : Launch} {E : XE} : Snd l E mX4_signHere 18 24 (xs [x_aload 0, x_get 5 7, x_push (.int (nI 96))]) := Snd.cons (snd_aload_n (i := 0) dX4_signHere_18 rfl) (Snd.cons (snd_get (ci := 5) (k := 7) dX4_signHere_19 rfl inX4 (by decide) tw_168) (Snd.cons (snd_bipush (v := nI 96) dX4_signHere_22 (by decide)) Snd.nil))
theorem bX4_signHere_27_35 {l : Launch} {E : XE} : Snd l E mX4_signHere 27 35 (xs [x_aload 0, x_get 5 0, x_aload 0, x_get 5 7]) := Snd.cons (snd_aload_n (i := 0) dX4_signHere_27 rfl) (Snd.cons (snd_get (ci := 5) (k := 0) dX4_signHere_28 rfl inX4 (by decide) tw_160) (Snd.cons (snd_aload_n (i := 0) dX4_signHere_31 rfl) (Snd.cons (snd_get (ci := 5) (k := 7) dX4_signHere_32 rfl inX4 (by decide) tw_168) Snd.nil)))
theorem bX4_signHere_36_41 {l : Launch} {E : XE} : Snd l E mX4_signHere 36 41 (xs [x_id]) := Snd.cons (snd_goto (tgt := 41) dX4_signHere_36 (by decide)) Snd.nil
set_option maxHeartbeats 4000000 in
set_option maxRecDepth 100000 in
theorem m_X4_signHere {l : Launch} {E : XE} (C : ScrN) (hC : ScrOK C) (hq : PFok C.sz (C.pl, C.fa)) : MetE l E mX4_signHere (0) 0 0 [.ref 0] (scrW 0 C) (fun r w' => r = some (.int (zI (sgz C.lt C.sz C.pl))) ∧ w' = scrW 0 C) := by
  refine MetE.of (by decide +kernel) (Nat.le_of_ble_eq_true rfl) ?_
  have hsz := hC.1
  have hpl : C.pl ≤ C.sz := hq.1
  have hfa : C.fa = -9 ∨ (0 ≤ C.fa ∧ C.fa ≤ ((C.sz : Nat) : Int)) := hq.2
  refine ev_eq (lv' := [(0, .ref 0)]) (st' := []) (w' := scrW 0 C) rfl rfl rfl ?_
  refine ev_b bX4_signHere_0_4 (lv' := [(0, .ref 0)]) (st' := [.int (nI (C.pl))]) (w2 := scrW 0 C) rfl ?_
  refine ev_if_lt_n (tgt := 39) (by omega) dX4_signHere_4 (by decide) (fun h4 => (by exfalso; omega)) (fun h4 => ?_)
  refine ev_b bX4_signHere_7_15 (lv' := [(0, .ref 0)]) (st' := [.int (nI (C.sz)), .int (nI (C.pl))]) (w2 := scrW 0 C) rfl ?_
  refine ev_icmp_ge_n (tgt := 39) (by omega) (by omega) dX4_signHere_15 (by decide) (fun h15 => ?_) (fun h15 => ?_)
  · skip
    refine ev_b bX4_signHere_39_41 (lv' := [(0, .ref 0)]) (st' := [.int (-9)]) (w2 := scrW 0 C) rfl ?_
    exact ev_iret dX4_signHere_41 rfl (Nat.le_of_ble_eq_true rfl) (Nat.le_refl _) (Nat.le_refl _) ⟨(by first | (rw [← zI_nat]; exact congrArg zI (show ((C.lt C.pl : Nat) : Int) = sgz C.lt C.sz C.pl from (if_pos (by omega)).symm)) | (rw [show sgz C.lt C.sz C.pl = ((C.lt C.pl : Nat) : Int) from if_pos (by omega)]) | (rw [show sgz C.lt C.sz C.pl = -9 from if_neg (by omega)]; exact congrArg (fun v => some (Value.int v)) (show (-9 : Int32) = zI (-9) from by decide))), rfl⟩
  · skip
    refine ev_b bX4_signHere_18_24 (lv' := [(0, .ref 0)]) (st' := [.int (nI (96)), .int (nI (C.pl))]) (w2 := scrW 0 C) rfl ?_
    refine ev_icmp_ge_n (tgt := 39) (by omega) (by decide) dX4_signHere_24 (by decide) (fun h24 => (by exfalso; omega)) (fun h24 => ?_)
    refine ev_b bX4_signHere_27_35 (lv' := [(0, .ref 0)]) (st' := [.int (nI (C.pl)), .ref 1]) (w2 := scrW 0 C) rfl ?_
    refine ev_iald_n (f := C.lt) dX4_signHere_35 rfl (by omega) (by decide) ?_
    refine ev_b bX4_signHere_36_41 (lv' := [(0, .ref 0)]) (st' := [.int (nI (C.lt C.pl))]) (w2 := scrW 0 C) rfl ?_
    exact ev_iret dX4_signHere_41 rfl (Nat.le_of_ble_eq_true rfl) (Nat.le_refl _) (Nat.le_refl _) ⟨(congrArg (fun t => some (Value.int t)) (show nI (C.lt C.pl) = zI (sgz C.lt C.sz C.pl) from by rw [← zI_nat]; exact congrArg zI (by first | (rw [← zI_nat]; exact congrArg zI (show ((C.lt C.pl : Nat) : Int) = sgz C.lt C.sz C.pl from (if_pos (by omega)).symm)) | (rw [show sgz C.lt C.sz C.pl = ((C.lt C.pl : Nat) : Int) from if_pos (by omega)]) | (rw [show sgz C.lt C.sz C.pl = -9 from if_neg (by omega)]; exact congrArg (fun v => some (Value.int v)) (show (-9 : Int32) = zI (-9) from by decide))))), rfl⟩
theorem bX4_noteFault_0_6 {l : Launch} {E : XE} : Snd l E mX4_noteFault 0 6 (xs [x_aload 0, x_get 5 8, x_push (.int (-9))]) := Snd.cons (snd_aload_n (i := 0) dX4_noteFault_0 rfl) (Snd.cons (snd_get (ci := 5) (k := 8) dX4_noteFault_1 rfl inX4 (by decide) tw_169) (Snd.cons (snd_bipush (v := -9) dX4_noteFault_4 (by decide)) Snd.nil))
theorem bX4_noteFault_9_11 {l : Launch} {E : XE} : Snd l E mX4_noteFault 9 11 (xs [x_aload 0, x_iload 1]) := Snd.cons (snd_aload_n (i := 0) dX4_noteFault_9 rfl) (Snd.cons (snd_iload_n (i := 1) dX4_noteFault_10 rfl) Snd.nil)
theorem bX4_noteFault_11_14 {l : Launch} {E : XE} : Snd l E mX4_noteFault 11 14 (xs [x_puti 5 8]) := Snd.cons (snd_puti (ci := 5) (k := 8) dX4_noteFault_11 rfl inX4 tyX4_ok nmX4 (by decide) tw_169 rfl rfl) Snd.nil
set_option maxHeartbeats 4000000 in
set_option maxRecDepth 100000 in
theorem m_X4_noteFault {l : Launch} {E : XE} (C : ScrN) (x : Nat) (hf : C.fa = -9) : MetE l E mX4_noteFault (0) 0 0 [.ref 0, .int (nI (x))] (scrW 0 C) (fun r w' => r = none ∧ w' = scrW 0 ((C.lt, C.st, C.wd, C.f1, C.f2, C.f3, C.sz, C.pl, ((x : Nat) : Int), C.sn) : ScrN)) := by
  refine MetE.of (by decide +kernel) (Nat.le_of_ble_eq_true rfl) ?_
  refine ev_eq (lv' := [(0, .ref 0), (1, .int (nI (x)))]) (st' := []) (w' := scrW 0 C) rfl rfl rfl ?_
  refine ev_b bX4_noteFault_0_6 (lv' := [(0, .ref 0), (1, .int (nI (x)))]) (st' := [.int (-9), .int (zI (C.fa))]) (w2 := scrW 0 C) rfl ?_
  refine ev_top (y := zI (-9)) (by decide) ?_
  refine ev_icmp_ne_z (tgt := 14) (by constructor <;> omega) (by constructor <;> omega) dX4_noteFault_6 (by decide) (fun h6 => (by exfalso; omega)) (fun h6 => ?_)
  refine ev_b bX4_noteFault_9_11 (lv' := [(0, .ref 0), (1, .int (nI (x)))]) (st' := [.int (nI (x)), .ref 0]) (w2 := scrW 0 C) rfl ?_
  refine ev_top (y := zI (((x : Nat) : Int))) (zI_nat _).symm ?_
  refine ev_b bX4_noteFault_11_14 (lv' := [(0, .ref 0), (1, .int (nI (x)))]) (st' := []) (w2 := scrW 0 ((C.lt, C.st, C.wd, C.f1, C.f2, C.f3, C.sz, C.pl, ((x : Nat) : Int), C.sn) : ScrN)) rfl ?_
  exact ev_vret dX4_noteFault_14 rfl (Nat.le_of_ble_eq_true rfl) (Nat.le_refl _) (Nat.le_refl _) ⟨rfl, rfl⟩
theorem bX4_readSign_0_6 {l : Launch} {E : XE} : Snd l E mX4_readSign 0 6 (xs [x_aload 0, x_get 5 8, x_push (.int (-9))]) := Snd.cons (snd_aload_n (i := 0) dX4_readSign_0 rfl) (Snd.cons (snd_get (ci := 5) (k := 8) dX4_readSign_1 rfl inX4 (by decide) tw_169) (Snd.cons (snd_bipush (v := -9) dX4_readSign_4 (by decide)) Snd.nil))
theorem bX4_readSign_10_11 {l : Launch} {E : XE} : Snd l E mX4_readSign 10 11 (xs [x_aload 0]) := Snd.cons (snd_aload_n (i := 0) dX4_readSign_10 rfl) Snd.nil
theorem bX4_readSign_14_15 {l : Launch} {E : XE} : Snd l E mX4_readSign 14 15 (xs [x_iload 1]) := Snd.cons (snd_iload_n (i := 1) dX4_readSign_14 rfl) Snd.nil
theorem bX4_readSign_31_36 {l : Launch} {E : XE} : Snd l E mX4_readSign 31 36 (xs [x_aload 0, x_aload 0, x_get 5 7]) := Snd.cons (snd_aload_n (i := 0) dX4_readSign_31 rfl) (Snd.cons (snd_aload_n (i := 0) dX4_readSign_32 rfl) (Snd.cons (snd_get (ci := 5) (k := 7) dX4_readSign_33 rfl inX4 (by decide) tw_168) Snd.nil))
theorem bX4_readSign_18_24 {l : Launch} {E : XE} : Snd l E mX4_readSign 18 24 (xs [x_aload 0, x_dup, x_get 5 7, x_push (.int (nI 1))]) := Snd.cons (snd_aload_n (i := 0) dX4_readSign_18 rfl) (Snd.cons (snd_dup dX4_readSign_19) (Snd.cons (snd_get (ci := 5) (k := 7) dX4_readSign_20 rfl inX4 (by decide) tw_168) (Snd.cons (snd_iconst (v := nI 1) dX4_readSign_23 (by decide)) Snd.nil)))
theorem bX4_readSign_25_39 {l : Launch} {E : XE} : Snd l E mX4_readSign 25 39 (xs [x_puti 5 7, x_id]) := Snd.cons (snd_puti (ci := 5) (k := 7) dX4_readSign_25 rfl inX4 tyX4_ok nmX4 (by decide) tw_168 rfl rfl) (Snd.cons (snd_goto (tgt := 39) dX4_readSign_28 (by decide)) Snd.nil)
set_option maxHeartbeats 4000000 in
set_option maxRecDepth 100000 in
theorem m_X4_readSign {l : Launch} {E : XE} (C : ScrN) (s : Nat) (hC : ScrOK C) (hq : PFok C.sz (C.pl, C.fa)) (hs : s ≤ 255) : MetE l E mX4_readSign (1) 0 0 [.ref 0, .int (nI (s))] (scrW 0 C) (fun r w' => r = none ∧ w' = scrW 0 ((C.lt, C.st, C.wd, C.f1, C.f2, C.f3, C.sz, (rdSign C.lt C.sz s (C.pl, C.fa)).1, (rdSign C.lt C.sz s (C.pl, C.fa)).2, C.sn) : ScrN)) := by
  refine MetE.of (by decide +kernel) (Nat.le_of_ble_eq_true rfl) ?_
  have hsz := hC.1
  have hpl : C.pl ≤ C.sz := hq.1
  have hfa : C.fa = -9 ∨ (0 ≤ C.fa ∧ C.fa ≤ ((C.sz : Nat) : Int)) := hq.2
  refine ev_eq (lv' := [(0, .ref 0), (1, .int (nI (s)))]) (st' := []) (w' := scrW 0 C) rfl rfl rfl ?_
  refine ev_b bX4_readSign_0_6 (lv' := [(0, .ref 0), (1, .int (nI (s)))]) (st' := [.int (-9), .int (zI (C.fa))]) (w2 := scrW 0 C) rfl ?_
  refine ev_top (y := zI (-9)) (by decide) ?_
  refine ev_icmp_eq_z (tgt := 10) (by constructor <;> omega) (by constructor <;> omega) dX4_readSign_6 (by decide) (fun h6 => ?_) (fun h6 => ?_)
  · skip
    refine ev_b bX4_readSign_10_11 (lv' := [(0, .ref 0), (1, .int (nI (s)))]) (st' := [.ref 0]) (w2 := scrW 0 C) rfl ?_
    refine ev_callV (Yc := mX4_signHere) [0, 1, 2, 3, 4, 5, 6] dX4_readSign_11 tw_277 kX4_signHere (m_X4_signHere C hC hq) rfl (st := []) rfl rfl rfl (by decide) rfl (by decide) (Nat.le_of_ble_eq_true rfl) (Nat.le_refl _) (Nat.le_refl _) (fun r w' h => by obtain ⟨-, rfl⟩ := h; exact Nat.le_of_ble_eq_true rfl) ?_
    rintro _ _ ⟨rfl, rfl⟩
    refine ev_eq (lv' := [(0, .ref 0), (1, .int (nI (s)))]) (st' := [.int (zI (sgz C.lt C.sz C.pl))]) (w' := scrW 0 C) rfl rfl rfl ?_
    have hsb := sgz_bnd (lt := C.lt) (n := C.sz) (p := C.pl) hC.2
    refine ev_b bX4_readSign_14_15 (lv' := [(0, .ref 0), (1, .int (nI (s)))]) (st' := [.int (nI (s)), .int (zI (sgz C.lt C.sz C.pl))]) (w2 := scrW 0 C) rfl ?_
    refine ev_top (y := zI (((s : Nat) : Int))) (zI_nat _).symm ?_
    refine ev_icmp_ne_z (tgt := 31) (by constructor <;> omega) (by constructor <;> omega) dX4_readSign_15 (by decide) (fun h15 => ?_) (fun h15 => ?_)
    · skip
      refine ev_b bX4_readSign_31_36 (lv' := [(0, .ref 0), (1, .int (nI (s)))]) (st' := [.int (nI (C.pl)), .ref 0]) (w2 := scrW 0 C) rfl ?_
      refine ev_callV (Yc := mX4_noteFault) [0, 1, 2, 3, 4, 5, 6] dX4_readSign_36 tw_345 kX4_noteFault (m_X4_noteFault C C.pl h6) rfl (st := []) rfl rfl rfl (by decide) rfl (by decide) (Nat.le_of_ble_eq_true rfl) (Nat.le_refl _) (Nat.le_refl _) (fun r w' h => by obtain ⟨-, rfl⟩ := h; exact Nat.le_of_ble_eq_true rfl) ?_
      rintro _ _ ⟨rfl, rfl⟩
      refine ev_eq (lv' := [(0, .ref 0), (1, .int (nI (s)))]) (st' := []) (w' := scrW 0 ((C.lt, C.st, C.wd, C.f1, C.f2, C.f3, C.sz, C.pl, ((C.pl : Nat) : Int), C.sn) : ScrN)) rfl rfl rfl ?_
      exact ev_vret dX4_readSign_39 rfl (Nat.le_of_ble_eq_true rfl) (Nat.le_refl _) (Nat.le_refl _) ⟨rfl, (by first | (rw [show rdSign C.lt C.sz s (C.pl, C.fa) = (C.pl + 1, -9) from (if_pos h6).trans (if_pos h15)]; rw [h6]) | (rw [show rdSign C.lt C.sz s (C.pl, C.fa) = (C.pl, ((C.pl : Nat) : Int)) from (if_pos h6).trans (if_neg h15)]))⟩
    · skip
      refine ev_b bX4_readSign_18_24 (lv' := [(0, .ref 0), (1, .int (nI (s)))]) (st' := [.int (nI (1)), .int (nI (C.pl)), .ref 0]) (w2 := scrW 0 C) rfl ?_
      refine ev_iadd_n dX4_readSign_24 ?_
      refine ev_b bX4_readSign_25_39 (lv' := [(0, .ref 0), (1, .int (nI (s)))]) (st' := []) (w2 := scrW 0 ((C.lt, C.st, C.wd, C.f1, C.f2, C.f3, C.sz, C.pl + 1, C.fa, C.sn) : ScrN)) rfl ?_
      exact ev_vret dX4_readSign_39 rfl (Nat.le_of_ble_eq_true rfl) (Nat.le_refl _) (Nat.le_refl _) ⟨rfl, (by first | (rw [show rdSign C.lt C.sz s (C.pl, C.fa) = (C.pl + 1, -9) from (if_pos h6).trans (if_pos h15)]; rw [h6]) | (rw [show rdSign C.lt C.sz s (C.pl, C.fa) = (C.pl, ((C.pl : Nat) : Int)) from (if_pos h6).trans (if_neg h15)]))⟩
  · skip
    exact ev_vret dX4_readSign_9 rfl (Nat.le_of_ble_eq_true rfl) (Nat.le_refl _) (Nat.le_refl _) ⟨rfl, (by rw [show rdSign C.lt C.sz s (C.pl, C.fa) = (C.pl, C.fa) from if_neg h6])⟩
theorem bX4_readItem_0_6 {l : Launch} {E : XE} : Snd l E mX4_readItem 0 6 (xs [x_aload 0, x_get 5 8, x_push (.int (-9))]) := Snd.cons (snd_aload_n (i := 0) dX4_readItem_0 rfl) (Snd.cons (snd_get (ci := 5) (k := 8) dX4_readItem_1 rfl inX4 (by decide) tw_169) (Snd.cons (snd_bipush (v := -9) dX4_readItem_4 (by decide)) Snd.nil))
theorem bX4_readItem_11_12 {l : Launch} {E : XE} : Snd l E mX4_readItem 11 12 (xs [x_aload 0]) := Snd.cons (snd_aload_n (i := 0) dX4_readItem_11 rfl) Snd.nil
theorem bX4_readItem_31_32 {l : Launch} {E : XE} : Snd l E mX4_readItem 31 32 (xs [x_aload 0]) := Snd.cons (snd_aload_n (i := 0) dX4_readItem_31 rfl) Snd.nil
theorem bX4_readItem_35_37 {l : Launch} {E : XE} : Snd l E mX4_readItem 35 37 (xs [x_push (.int (nI 97))]) := Snd.cons (snd_bipush (v := nI 97) dX4_readItem_35 (by decide)) Snd.nil
theorem bX4_readItem_38_45 {l : Launch} {E : XE} : Snd l E mX4_readItem 38 45 (xs [x_istore 1, x_aload 0, x_dup, x_get 5 7, x_push (.int (nI 1))]) := Snd.cons (snd_istore_n (i := 1) dX4_readItem_38 rfl (by decide)) (Snd.cons (snd_aload_n (i := 0) dX4_readItem_39 rfl) (Snd.cons (snd_dup dX4_readItem_40) (Snd.cons (snd_get (ci := 5) (k := 7) dX4_readItem_41 rfl inX4 (by decide) tw_168) (Snd.cons (snd_iconst (v := nI 1) dX4_readItem_44 (by decide)) Snd.nil))))
theorem bX4_readItem_46_50 {l : Launch} {E : XE} : Snd l E mX4_readItem 46 50 (xs [x_puti 5 7, x_iload 1]) := Snd.cons (snd_puti (ci := 5) (k := 7) dX4_readItem_46 rfl inX4 tyX4_ok nmX4 (by decide) tw_168 rfl rfl) (Snd.cons (snd_iload_n (i := 1) dX4_readItem_49 rfl) Snd.nil)
theorem bX4_readItem_21_26 {l : Launch} {E : XE} : Snd l E mX4_readItem 21 26 (xs [x_aload 0, x_aload 0, x_get 5 7]) := Snd.cons (snd_aload_n (i := 0) dX4_readItem_21 rfl) (Snd.cons (snd_aload_n (i := 0) dX4_readItem_22 rfl) (Snd.cons (snd_get (ci := 5) (k := 7) dX4_readItem_23 rfl inX4 (by decide) tw_168) Snd.nil))
theorem bX4_readItem_29_30 {l : Launch} {E : XE} : Snd l E mX4_readItem 29 30 (xs [x_push (.int (nI 0))]) := Snd.cons (snd_iconst (v := nI 0) dX4_readItem_29 (by decide)) Snd.nil
theorem bX4_readItem_9_10 {l : Launch} {E : XE} : Snd l E mX4_readItem 9 10 (xs [x_push (.int (nI 0))]) := Snd.cons (snd_iconst (v := nI 0) dX4_readItem_9 (by decide)) Snd.nil
set_option maxHeartbeats 4000000 in
set_option maxRecDepth 100000 in
theorem m_X4_readItem {l : Launch} {E : XE} (C : ScrN) (hC : ScrOK C) (hq : PFok C.sz (C.pl, C.fa)) : MetE l E mX4_readItem (1) 0 0 [.ref 0] (scrW 0 C) (fun r w' => r = some (.int (nI ((rdItem C.lt C.sz (C.pl, C.fa)).1))) ∧ w' = scrW 0 ((C.lt, C.st, C.wd, C.f1, C.f2, C.f3, C.sz, ((rdItem C.lt C.sz (C.pl, C.fa)).2).1, ((rdItem C.lt C.sz (C.pl, C.fa)).2).2, C.sn) : ScrN)) := by
  refine MetE.of (by decide +kernel) (Nat.le_of_ble_eq_true rfl) ?_
  have hsz := hC.1
  have hpl : C.pl ≤ C.sz := hq.1
  have hfa : C.fa = -9 ∨ (0 ≤ C.fa ∧ C.fa ≤ ((C.sz : Nat) : Int)) := hq.2
  refine ev_eq (lv' := [(0, .ref 0)]) (st' := []) (w' := scrW 0 C) rfl rfl rfl ?_
  refine ev_b bX4_readItem_0_6 (lv' := [(0, .ref 0)]) (st' := [.int (-9), .int (zI (C.fa))]) (w2 := scrW 0 C) rfl ?_
  refine ev_top (y := zI (-9)) (by decide) ?_
  refine ev_icmp_eq_z (tgt := 11) (by constructor <;> omega) (by constructor <;> omega) dX4_readItem_6 (by decide) (fun h6 => ?_) (fun h6 => ?_)
  · skip
    refine ev_b bX4_readItem_11_12 (lv' := [(0, .ref 0)]) (st' := [.ref 0]) (w2 := scrW 0 C) rfl ?_
    refine ev_callV (Yc := mX4_signHere) [0, 1, 2, 3, 4, 5, 6] dX4_readItem_12 tw_277 kX4_signHere (m_X4_signHere C hC hq) rfl (st := []) rfl rfl rfl (by decide) rfl (by decide) (Nat.le_of_ble_eq_true rfl) (Nat.le_refl _) (Nat.le_refl _) (fun r w' h => by obtain ⟨-, rfl⟩ := h; exact Nat.le_of_ble_eq_true rfl) ?_
    rintro _ _ ⟨rfl, rfl⟩
    refine ev_eq (lv' := [(0, .ref 0)]) (st' := [.int (zI (sgz C.lt C.sz C.pl))]) (w' := scrW 0 C) rfl rfl rfl ?_
    have hsb := sgz_bnd (lt := C.lt) (n := C.sz) (p := C.pl) hC.2
    refine ev_callS (Yc := mX4_isSmall) [] dX4_readItem_15 tw_281 kX4_isSmall (m_X4_isSmall (sgz C.lt C.sz C.pl) (by constructor <;> omega)) rfl (st := []) rfl (by decide) rfl (by decide) (Nat.le_of_ble_eq_true rfl) (Nat.le_refl _) (Nat.le_refl _) (fun r w' h => by obtain ⟨-, rfl⟩ := h; exact Nat.le_of_ble_eq_true rfl) ?_
    rintro _ _ ⟨rfl, rfl⟩
    refine ev_eq (lv' := [(0, .ref 0)]) (st' := [.int (nI (b01 (isSm (sgz C.lt C.sz C.pl))))]) (w' := scrW 0 C) rfl rfl rfl ?_
    refine ev_ifne_b (tgt := 31) dX4_readItem_18 (by decide) (fun h18 => ?_) (fun h18 => ?_)
    · skip
      have hsg := sgz_lt (lt := C.lt) (n := C.sz) (p := C.pl) (by omega)
      have hs97 : 97 ≤ C.lt C.pl := by omega
      have e9 : rdItem C.lt C.sz (C.pl, C.fa) = (C.lt C.pl - 97, (C.pl + 1, -9)) := (if_pos h6).trans (if_pos h18)
      refine ev_b bX4_readItem_31_32 (lv' := [(0, .ref 0)]) (st' := [.ref 0]) (w2 := scrW 0 C) rfl ?_
      refine ev_callV (Yc := mX4_signHere) [0, 1, 2, 3, 4, 5, 6] dX4_readItem_32 tw_277 kX4_signHere (m_X4_signHere C hC hq) rfl (st := []) rfl rfl rfl (by decide) rfl (by decide) (Nat.le_of_ble_eq_true rfl) (Nat.le_refl _) (Nat.le_refl _) (fun r w' h => by obtain ⟨-, rfl⟩ := h; exact Nat.le_of_ble_eq_true rfl) ?_
      rintro _ _ ⟨rfl, rfl⟩
      refine ev_eq (lv' := [(0, .ref 0)]) (st' := [.int (zI (sgz C.lt C.sz C.pl))]) (w' := scrW 0 C) rfl rfl rfl ?_
      have hsb := sgz_bnd (lt := C.lt) (n := C.sz) (p := C.pl) hC.2
      refine ev_top (y := (nI (C.lt C.pl))) (by rw [show sgz C.lt C.sz C.pl = ((C.lt C.pl : Nat) : Int) from by exact hsg.2]; exact zI_nat _) ?_
      refine ev_b bX4_readItem_35_37 (lv' := [(0, .ref 0)]) (st' := [.int (nI (97)), .int (nI (C.lt C.pl))]) (w2 := scrW 0 C) rfl ?_
      refine ev_top (y := zI (((97 : Nat) : Int))) (zI_nat _).symm ?_
      refine ev_top2 (y := zI (((C.lt C.pl : Nat) : Int))) (zI_nat _).symm ?_
      refine ev_isub_z dX4_readItem_37 ?_
      refine ev_b bX4_readItem_38_45 (lv' := [(1, .int (zI ((((C.lt C.pl : Nat) : Int)) - (((97 : Nat) : Int))))), (0, .ref 0)]) (st' := [.int (nI (1)), .int (nI (C.pl)), .ref 0]) (w2 := scrW 0 C) rfl ?_
      refine ev_iadd_n dX4_readItem_45 ?_
      refine ev_b bX4_readItem_46_50 (lv' := [(1, .int (zI ((((C.lt C.pl : Nat) : Int)) - (((97 : Nat) : Int))))), (0, .ref 0)]) (st' := [.int (zI ((((C.lt C.pl : Nat) : Int)) - (((97 : Nat) : Int))))]) (w2 := scrW 0 ((C.lt, C.st, C.wd, C.f1, C.f2, C.f3, C.sz, C.pl + 1, C.fa, C.sn) : ScrN)) rfl ?_
      exact ev_iret dX4_readItem_50 rfl (Nat.le_of_ble_eq_true rfl) (Nat.le_refl _) (Nat.le_refl _) ⟨(congrArg (fun t => some (Value.int t)) (show zI ((((C.lt C.pl : Nat) : Int)) - (((97 : Nat) : Int))) = nI ((rdItem C.lt C.sz (C.pl, C.fa)).1) from by rw [← zI_nat]; exact congrArg zI (by rw [e9]; show _ = ((C.lt C.pl - 97 : Nat) : Int); omega))), (by rw [e9, h6])⟩
    · skip
      have e9 : rdItem C.lt C.sz (C.pl, C.fa) = (0, (C.pl, ((C.pl : Nat) : Int))) := (if_pos h6).trans (if_neg h18)
      refine ev_b bX4_readItem_21_26 (lv' := [(0, .ref 0)]) (st' := [.int (nI (C.pl)), .ref 0]) (w2 := scrW 0 C) rfl ?_
      refine ev_callV (Yc := mX4_noteFault) [0, 1, 2, 3, 4, 5, 6] dX4_readItem_26 tw_345 kX4_noteFault (m_X4_noteFault C C.pl h6) rfl (st := []) rfl rfl rfl (by decide) rfl (by decide) (Nat.le_of_ble_eq_true rfl) (Nat.le_refl _) (Nat.le_refl _) (fun r w' h => by obtain ⟨-, rfl⟩ := h; exact Nat.le_of_ble_eq_true rfl) ?_
      rintro _ _ ⟨rfl, rfl⟩
      refine ev_eq (lv' := [(0, .ref 0)]) (st' := []) (w' := scrW 0 ((C.lt, C.st, C.wd, C.f1, C.f2, C.f3, C.sz, C.pl, ((C.pl : Nat) : Int), C.sn) : ScrN)) rfl rfl rfl ?_
      refine ev_b bX4_readItem_29_30 (lv' := [(0, .ref 0)]) (st' := [.int (nI (0))]) (w2 := scrW 0 ((C.lt, C.st, C.wd, C.f1, C.f2, C.f3, C.sz, C.pl, ((C.pl : Nat) : Int), C.sn) : ScrN)) rfl ?_
      exact ev_iret dX4_readItem_30 rfl (Nat.le_of_ble_eq_true rfl) (Nat.le_refl _) (Nat.le_refl _) ⟨(congrArg (fun t => some (Value.int (nI t))) (show 0 = (rdItem C.lt C.sz (C.pl, C.fa)).1 from by rw [e9])), (by rw [e9])⟩
  · skip
    have e9 : rdItem C.lt C.sz (C.pl, C.fa) = (0, (C.pl, C.fa)) := if_neg h6
    refine ev_b bX4_readItem_9_10 (lv' := [(0, .ref 0)]) (st' := [.int (nI (0))]) (w2 := scrW 0 C) rfl ?_
    exact ev_iret dX4_readItem_10 rfl (Nat.le_of_ble_eq_true rfl) (Nat.le_refl _) (Nat.le_refl _) ⟨(congrArg (fun t => some (Value.int (nI t))) (show 0 = (rdItem C.lt C.sz (C.pl, C.fa)).1 from by rw [e9])), (by rw [e9])⟩
theorem bX4_readNumber_0_6 {l : Launch} {E : XE} : Snd l E mX4_readNumber 0 6 (xs [x_aload 0, x_get 5 8, x_push (.int (-9))]) := Snd.cons (snd_aload_n (i := 0) dX4_readNumber_0 rfl) (Snd.cons (snd_get (ci := 5) (k := 8) dX4_readNumber_1 rfl inX4 (by decide) tw_169) (Snd.cons (snd_bipush (v := -9) dX4_readNumber_4 (by decide)) Snd.nil))
theorem bX4_readNumber_11_12 {l : Launch} {E : XE} : Snd l E mX4_readNumber 11 12 (xs [x_aload 0]) := Snd.cons (snd_aload_n (i := 0) dX4_readNumber_11 rfl) Snd.nil
theorem bX4_readNumber_29_35 {l : Launch} {E : XE} : Snd l E mX4_readNumber 29 35 (xs [x_push (.int (nI 0)), x_istore 1, x_push (.int (nI 0)), x_istore 2, x_iload 2, x_push (.int (nI 2))]) := Snd.cons (snd_iconst (v := nI 0) dX4_readNumber_29 (by decide)) (Snd.cons (snd_istore_n (i := 1) dX4_readNumber_30 rfl (by decide)) (Snd.cons (snd_iconst (v := nI 0) dX4_readNumber_31 (by decide)) (Snd.cons (snd_istore_n (i := 2) dX4_readNumber_32 rfl (by decide)) (Snd.cons (snd_iload_n (i := 2) dX4_readNumber_33 rfl) (Snd.cons (snd_iconst (v := nI 2) dX4_readNumber_34 (by decide)) Snd.nil)))))
theorem bX4_readNumber_38_39 {l : Launch} {E : XE} : Snd l E mX4_readNumber 38 39 (xs [x_aload 0]) := Snd.cons (snd_aload_n (i := 0) dX4_readNumber_38 rfl) Snd.nil
theorem bX4_readNumber_77_78 {l : Launch} {E : XE} : Snd l E mX4_readNumber 77 78 (xs [x_iload 1]) := Snd.cons (snd_iload_n (i := 1) dX4_readNumber_77 rfl) Snd.nil
theorem bX4_readNumber_48_51 {l : Launch} {E : XE} : Snd l E mX4_readNumber 48 51 (xs [x_push (.int (nI 10)), x_iload 1]) := Snd.cons (snd_bipush (v := nI 10) dX4_readNumber_48 (by decide)) (Snd.cons (snd_iload_n (i := 1) dX4_readNumber_50 rfl) Snd.nil)
theorem bX4_readNumber_52_53 {l : Launch} {E : XE} : Snd l E mX4_readNumber 52 53 (xs [x_aload 0]) := Snd.cons (snd_aload_n (i := 0) dX4_readNumber_52 rfl) Snd.nil
theorem bX4_readNumber_57_59 {l : Launch} {E : XE} : Snd l E mX4_readNumber 57 59 (xs [x_push (.int (nI 48))]) := Snd.cons (snd_bipush (v := nI 48) dX4_readNumber_57 (by decide)) Snd.nil
theorem bX4_readNumber_60_67 {l : Launch} {E : XE} : Snd l E mX4_readNumber 60 67 (xs [x_istore 1, x_aload 0, x_dup, x_get 5 7, x_push (.int (nI 1))]) := Snd.cons (snd_istore_n (i := 1) dX4_readNumber_60 rfl (by decide)) (Snd.cons (snd_aload_n (i := 0) dX4_readNumber_61 rfl) (Snd.cons (snd_dup dX4_readNumber_62) (Snd.cons (snd_get (ci := 5) (k := 7) dX4_readNumber_63 rfl inX4 (by decide) tw_168) (Snd.cons (snd_iconst (v := nI 1) dX4_readNumber_66 (by decide)) Snd.nil))))
theorem bX4_readNumber_68_71 {l : Launch} {E : XE} : Snd l E mX4_readNumber 68 71 (xs [x_puti 5 7]) := Snd.cons (snd_puti (ci := 5) (k := 7) dX4_readNumber_68 rfl inX4 tyX4_ok nmX4 (by decide) tw_168 rfl rfl) Snd.nil
theorem bX4_readNumber_74_35 {l : Launch} {E : XE} : Snd l E mX4_readNumber 74 35 (xs [x_id, x_iload 2, x_push (.int (nI 2))]) := Snd.cons (snd_goto (tgt := 33) dX4_readNumber_74 (by decide)) (Snd.cons (snd_iload_n (i := 2) dX4_readNumber_33 rfl) (Snd.cons (snd_iconst (v := nI 2) dX4_readNumber_34 (by decide)) Snd.nil))
theorem bX4_readNumber_21_26 {l : Launch} {E : XE} : Snd l E mX4_readNumber 21 26 (xs [x_aload 0, x_aload 0, x_get 5 7]) := Snd.cons (snd_aload_n (i := 0) dX4_readNumber_21 rfl) (Snd.cons (snd_aload_n (i := 0) dX4_readNumber_22 rfl) (Snd.cons (snd_get (ci := 5) (k := 7) dX4_readNumber_23 rfl inX4 (by decide) tw_168) Snd.nil))
theorem bX4_readNumber_9_10 {l : Launch} {E : XE} : Snd l E mX4_readNumber 9 10 (xs [x_push (.int (nI 0))]) := Snd.cons (snd_iconst (v := nI 0) dX4_readNumber_9 (by decide)) Snd.nil
set_option maxHeartbeats 4000000 in
set_option maxRecDepth 100000 in
theorem m_X4_readNumber {l : Launch} {E : XE} (C : ScrN) (hC : ScrOK C) (hq : PFok C.sz (C.pl, C.fa)) : MetE l E mX4_readNumber (1) 0 0 [.ref 0] (scrW 0 C) (fun r w' => r = some (.int (nI ((rdNum C.lt C.sz (C.pl, C.fa)).1))) ∧ w' = scrW 0 ((C.lt, C.st, C.wd, C.f1, C.f2, C.f3, C.sz, ((rdNum C.lt C.sz (C.pl, C.fa)).2).1, ((rdNum C.lt C.sz (C.pl, C.fa)).2).2, C.sn) : ScrN)) := by
  refine MetE.of (by decide +kernel) (Nat.le_of_ble_eq_true rfl) ?_
  have hsz := hC.1
  have hpl : C.pl ≤ C.sz := hq.1
  have hfa : C.fa = -9 ∨ (0 ≤ C.fa ∧ C.fa ≤ ((C.sz : Nat) : Int)) := hq.2
  refine ev_eq (lv' := [(0, .ref 0)]) (st' := []) (w' := scrW 0 C) rfl rfl rfl ?_
  refine ev_b bX4_readNumber_0_6 (lv' := [(0, .ref 0)]) (st' := [.int (-9), .int (zI (C.fa))]) (w2 := scrW 0 C) rfl ?_
  refine ev_top (y := zI (-9)) (by decide) ?_
  refine ev_icmp_eq_z (tgt := 11) (by constructor <;> omega) (by constructor <;> omega) dX4_readNumber_6 (by decide) (fun h6 => ?_) (fun h6 => ?_)
  · skip
    refine ev_b bX4_readNumber_11_12 (lv' := [(0, .ref 0)]) (st' := [.ref 0]) (w2 := scrW 0 C) rfl ?_
    refine ev_callV (Yc := mX4_signHere) [0, 1, 2, 3, 4, 5, 6] dX4_readNumber_12 tw_277 kX4_signHere (m_X4_signHere C hC hq) rfl (st := []) rfl rfl rfl (by decide) rfl (by decide) (Nat.le_of_ble_eq_true rfl) (Nat.le_refl _) (Nat.le_refl _) (fun r w' h => by obtain ⟨-, rfl⟩ := h; exact Nat.le_of_ble_eq_true rfl) ?_
    rintro _ _ ⟨rfl, rfl⟩
    refine ev_eq (lv' := [(0, .ref 0)]) (st' := [.int (zI (sgz C.lt C.sz C.pl))]) (w' := scrW 0 C) rfl rfl rfl ?_
    have hsb := sgz_bnd (lt := C.lt) (n := C.sz) (p := C.pl) hC.2
    refine ev_callS (Yc := mX4_isDigit) [] dX4_readNumber_15 tw_361 kX4_isDigit (m_X4_isDigit (sgz C.lt C.sz C.pl) (by constructor <;> omega)) rfl (st := []) rfl (by decide) rfl (by decide) (Nat.le_of_ble_eq_true rfl) (Nat.le_refl _) (Nat.le_refl _) (fun r w' h => by obtain ⟨-, rfl⟩ := h; exact Nat.le_of_ble_eq_true rfl) ?_
    rintro _ _ ⟨rfl, rfl⟩
    refine ev_eq (lv' := [(0, .ref 0)]) (st' := [.int (nI (b01 (isDg (sgz C.lt C.sz C.pl))))]) (w' := scrW 0 C) rfl rfl rfl ?_
    refine ev_ifne_b (tgt := 29) dX4_readNumber_18 (by decide) (fun h18 => ?_) (fun h18 => ?_)
    · skip
      refine ev_b bX4_readNumber_29_35 (lv' := [(2, .int (nI (0))), (1, .int (nI (0))), (0, .ref 0)]) (st' := [.int (nI (2)), .int (nI (0))]) (w2 := scrW 0 C) rfl ?_
      refine ev_icmp_ge_n (tgt := 77) (by decide) (by decide) dX4_readNumber_35 (by decide) (fun h35 => (by exfalso; omega)) (fun h35 => ?_)
      refine ev_b bX4_readNumber_38_39 (lv' := [(2, .int (nI (0))), (1, .int (nI (0))), (0, .ref 0)]) (st' := [.ref 0]) (w2 := scrW 0 C) rfl ?_
      refine ev_callV (Yc := mX4_signHere) [0, 1, 2, 3, 4, 5, 6] dX4_readNumber_39 tw_277 kX4_signHere (m_X4_signHere C hC hq) rfl (st := []) rfl rfl rfl (by decide) rfl (by decide) (Nat.le_of_ble_eq_true rfl) (Nat.le_refl _) (Nat.le_refl _) (fun r w' h => by obtain ⟨-, rfl⟩ := h; exact Nat.le_of_ble_eq_true rfl) ?_
      rintro _ _ ⟨rfl, rfl⟩
      refine ev_eq (lv' := [(2, .int (nI (0))), (1, .int (nI (0))), (0, .ref 0)]) (st' := [.int (zI (sgz C.lt C.sz (C.pl)))]) (w' := scrW 0 C) rfl rfl rfl ?_
      have hsb := sgz_bnd (lt := C.lt) (n := C.sz) (p := C.pl) hC.2
      refine ev_callS (Yc := mX4_isDigit) [] dX4_readNumber_42 tw_361 kX4_isDigit (m_X4_isDigit (sgz C.lt C.sz (C.pl)) (by constructor <;> omega)) rfl (st := []) rfl (by decide) rfl (by decide) (Nat.le_of_ble_eq_true rfl) (Nat.le_refl _) (Nat.le_refl _) (fun r w' h => by obtain ⟨-, rfl⟩ := h; exact Nat.le_of_ble_eq_true rfl) ?_
      rintro _ _ ⟨rfl, rfl⟩
      refine ev_eq (lv' := [(2, .int (nI (0))), (1, .int (nI (0))), (0, .ref 0)]) (st' := [.int (nI (b01 (isDg (sgz C.lt C.sz (C.pl)))))]) (w' := scrW 0 C) rfl rfl rfl ?_
      refine ev_ifeq_b (tgt := 77) dX4_readNumber_45 (by decide) (fun h45 => ?_) (fun h45 => ?_)
      · skip
        have e9 : rdNum C.lt C.sz (C.pl, C.fa) = (0, (C.pl, -9)) := absurd h18 h45
        refine ev_b bX4_readNumber_77_78 (lv' := [(2, .int (nI (0))), (1, .int (nI (0))), (0, .ref 0)]) (st' := [.int (nI (0))]) (w2 := scrW 0 C) rfl ?_
        exact ev_iret dX4_readNumber_78 rfl (Nat.le_of_ble_eq_true rfl) (Nat.le_refl _) (Nat.le_refl _) ⟨(congrArg (fun t => some (Value.int (nI t))) (show 0 = (rdNum C.lt C.sz (C.pl, C.fa)).1 from by rw [e9]; try omega)), (by first | exact absurd h18 h45 | rw [e9, h6] | rw [e9])⟩
      · skip
        have hsg0 := sgz_lt (lt := C.lt) (n := C.sz) (p := C.pl) (by omega)
        have hdg0 : 48 ≤ C.lt (C.pl) ∧ C.lt (C.pl) ≤ 57 := by omega
        have hq1 : PFok C.sz (C.pl + 1, C.fa) := ⟨hsg0.1, hq.2⟩
        refine ev_b bX4_readNumber_48_51 (lv' := [(2, .int (nI (0))), (1, .int (nI (0))), (0, .ref 0)]) (st' := [.int (nI (0)), .int (nI (10))]) (w2 := scrW 0 C) rfl ?_
        refine ev_imul_n dX4_readNumber_51 ?_
        refine ev_b bX4_readNumber_52_53 (lv' := [(2, .int (nI (0))), (1, .int (nI (0))), (0, .ref 0)]) (st' := [.ref 0, .int (nI (10 * 0))]) (w2 := scrW 0 C) rfl ?_
        refine ev_callV (Yc := mX4_signHere) [0, 1, 2, 3, 4, 5, 6] dX4_readNumber_53 tw_277 kX4_signHere (m_X4_signHere C hC hq) rfl (st := [.int (nI (10 * 0))]) rfl rfl rfl (by decide) rfl (by decide) (Nat.le_of_ble_eq_true rfl) (Nat.le_refl _) (Nat.le_refl _) (fun r w' h => by obtain ⟨-, rfl⟩ := h; exact Nat.le_of_ble_eq_true rfl) ?_
        rintro _ _ ⟨rfl, rfl⟩
        refine ev_eq (lv' := [(2, .int (nI (0))), (1, .int (nI (0))), (0, .ref 0)]) (st' := [.int (zI (sgz C.lt C.sz (C.pl))), .int (nI (10 * 0))]) (w' := scrW 0 C) rfl rfl rfl ?_
        refine ev_top (y := (nI (C.lt (C.pl)))) (by rw [show sgz C.lt C.sz (C.pl) = ((C.lt (C.pl) : Nat) : Int) from by exact hsg0.2]; exact zI_nat _) ?_
        refine ev_iadd_n dX4_readNumber_56 ?_
        refine ev_b bX4_readNumber_57_59 (lv' := [(2, .int (nI (0))), (1, .int (nI (0))), (0, .ref 0)]) (st' := [.int (nI (48)), .int (nI ((10 * 0) + (C.lt (C.pl))))]) (w2 := scrW 0 C) rfl ?_
        refine ev_isub_n (by omega) dX4_readNumber_59 ?_
        refine ev_b bX4_readNumber_60_67 (lv' := [(1, .int (nI (((10 * 0) + (C.lt (C.pl))) - 48))), (2, .int (nI (0))), (0, .ref 0)]) (st' := [.int (nI (1)), .int (nI (C.pl)), .ref 0]) (w2 := scrW 0 C) rfl ?_
        refine ev_iadd_n dX4_readNumber_67 ?_
        refine ev_b bX4_readNumber_68_71 (lv' := [(1, .int (nI (((10 * 0) + (C.lt (C.pl))) - 48))), (2, .int (nI (0))), (0, .ref 0)]) (st' := []) (w2 := scrW 0 ((C.lt, C.st, C.wd, C.f1, C.f2, C.f3, C.sz, C.pl + 1, C.fa, C.sn) : ScrN)) rfl ?_
        refine ev_iinc_n (x := 0) (v := 1) dX4_readNumber_71 rfl (by decide) ?_
        refine ev_eq (lv' := [(2, .int (nI (0 + 1))), (1, .int (nI (((10 * 0) + (C.lt (C.pl))) - 48))), (0, .ref 0)]) rfl rfl rfl ?_
        refine ev_b bX4_readNumber_74_35 (lv' := [(2, .int (nI (0 + 1))), (1, .int (nI (((10 * 0) + (C.lt (C.pl))) - 48))), (0, .ref 0)]) (st' := [.int (nI (2)), .int (nI (0 + 1))]) (w2 := scrW 0 ((C.lt, C.st, C.wd, C.f1, C.f2, C.f3, C.sz, C.pl + 1, C.fa, C.sn) : ScrN)) rfl ?_
        refine ev_icmp_ge_n (tgt := 77) (by omega) (by decide) dX4_readNumber_35 (by decide) (fun h35 => (by exfalso; omega)) (fun h35 => ?_)
        refine ev_b bX4_readNumber_38_39 (lv' := [(2, .int (nI (0 + 1))), (1, .int (nI (((10 * 0) + (C.lt (C.pl))) - 48))), (0, .ref 0)]) (st' := [.ref 0]) (w2 := scrW 0 ((C.lt, C.st, C.wd, C.f1, C.f2, C.f3, C.sz, C.pl + 1, C.fa, C.sn) : ScrN)) rfl ?_
        refine ev_callV (Yc := mX4_signHere) [0, 1, 2, 3, 4, 5, 6] dX4_readNumber_39 tw_277 kX4_signHere (m_X4_signHere ((C.lt, C.st, C.wd, C.f1, C.f2, C.f3, C.sz, C.pl + 1, C.fa, C.sn) : ScrN) hC hq1) rfl (st := []) rfl rfl rfl (by decide) rfl (by decide) (Nat.le_of_ble_eq_true rfl) (Nat.le_refl _) (Nat.le_refl _) (fun r w' h => by obtain ⟨-, rfl⟩ := h; exact Nat.le_of_ble_eq_true rfl) ?_
        rintro _ _ ⟨rfl, rfl⟩
        refine ev_eq (lv' := [(2, .int (nI (0 + 1))), (1, .int (nI (((10 * 0) + (C.lt (C.pl))) - 48))), (0, .ref 0)]) (st' := [.int (zI (sgz C.lt C.sz (C.pl + 1)))]) (w' := scrW 0 ((C.lt, C.st, C.wd, C.f1, C.f2, C.f3, C.sz, C.pl + 1, C.fa, C.sn) : ScrN)) rfl rfl rfl ?_
        have hsb := sgz_bnd (lt := C.lt) (n := C.sz) (p := C.pl + 1) hC.2
        refine ev_callS (Yc := mX4_isDigit) [] dX4_readNumber_42 tw_361 kX4_isDigit (m_X4_isDigit (sgz C.lt C.sz (C.pl + 1)) (by constructor <;> omega)) rfl (st := []) rfl (by decide) rfl (by decide) (Nat.le_of_ble_eq_true rfl) (Nat.le_refl _) (Nat.le_refl _) (fun r w' h => by obtain ⟨-, rfl⟩ := h; exact Nat.le_of_ble_eq_true rfl) ?_
        rintro _ _ ⟨rfl, rfl⟩
        refine ev_eq (lv' := [(2, .int (nI (0 + 1))), (1, .int (nI (((10 * 0) + (C.lt (C.pl))) - 48))), (0, .ref 0)]) (st' := [.int (nI (b01 (isDg (sgz C.lt C.sz (C.pl + 1)))))]) (w' := scrW 0 ((C.lt, C.st, C.wd, C.f1, C.f2, C.f3, C.sz, C.pl + 1, C.fa, C.sn) : ScrN)) rfl rfl rfl ?_
        refine ev_ifeq_b (tgt := 77) dX4_readNumber_45 (by decide) (fun h45 => ?_) (fun h45 => ?_)
        · skip
          have e9 : rdNum C.lt C.sz (C.pl, C.fa) = (C.lt C.pl - 48, (C.pl + 1, -9)) := (if_pos h6).trans ((if_pos h18).trans (if_neg h45))
          refine ev_b bX4_readNumber_77_78 (lv' := [(2, .int (nI (0 + 1))), (1, .int (nI (((10 * 0) + (C.lt (C.pl))) - 48))), (0, .ref 0)]) (st' := [.int (nI (((10 * 0) + (C.lt (C.pl))) - 48))]) (w2 := scrW 0 ((C.lt, C.st, C.wd, C.f1, C.f2, C.f3, C.sz, C.pl + 1, C.fa, C.sn) : ScrN)) rfl ?_
          exact ev_iret dX4_readNumber_78 rfl (Nat.le_of_ble_eq_true rfl) (Nat.le_refl _) (Nat.le_refl _) ⟨(congrArg (fun t => some (Value.int (nI t))) (show ((10 * 0) + (C.lt (C.pl))) - 48 = (rdNum C.lt C.sz (C.pl, C.fa)).1 from by rw [e9]; try omega)), (by first | exact absurd h18 h45 | rw [e9, h6] | rw [e9])⟩
        · skip
          have hsg1 := sgz_lt (lt := C.lt) (n := C.sz) (p := C.pl + 1) (by omega)
          have hdg1 : 48 ≤ C.lt (C.pl + 1) ∧ C.lt (C.pl + 1) ≤ 57 := by omega
          refine ev_b bX4_readNumber_48_51 (lv' := [(2, .int (nI (0 + 1))), (1, .int (nI (((10 * 0) + (C.lt (C.pl))) - 48))), (0, .ref 0)]) (st' := [.int (nI (((10 * 0) + (C.lt (C.pl))) - 48)), .int (nI (10))]) (w2 := scrW 0 ((C.lt, C.st, C.wd, C.f1, C.f2, C.f3, C.sz, C.pl + 1, C.fa, C.sn) : ScrN)) rfl ?_
          refine ev_imul_n dX4_readNumber_51 ?_
          refine ev_b bX4_readNumber_52_53 (lv' := [(2, .int (nI (0 + 1))), (1, .int (nI (((10 * 0) + (C.lt (C.pl))) - 48))), (0, .ref 0)]) (st' := [.ref 0, .int (nI (10 * (((10 * 0) + (C.lt (C.pl))) - 48)))]) (w2 := scrW 0 ((C.lt, C.st, C.wd, C.f1, C.f2, C.f3, C.sz, C.pl + 1, C.fa, C.sn) : ScrN)) rfl ?_
          refine ev_callV (Yc := mX4_signHere) [0, 1, 2, 3, 4, 5, 6] dX4_readNumber_53 tw_277 kX4_signHere (m_X4_signHere ((C.lt, C.st, C.wd, C.f1, C.f2, C.f3, C.sz, C.pl + 1, C.fa, C.sn) : ScrN) hC hq1) rfl (st := [.int (nI (10 * (((10 * 0) + (C.lt (C.pl))) - 48)))]) rfl rfl rfl (by decide) rfl (by decide) (Nat.le_of_ble_eq_true rfl) (Nat.le_refl _) (Nat.le_refl _) (fun r w' h => by obtain ⟨-, rfl⟩ := h; exact Nat.le_of_ble_eq_true rfl) ?_
          rintro _ _ ⟨rfl, rfl⟩
          refine ev_eq (lv' := [(2, .int (nI (0 + 1))), (1, .int (nI (((10 * 0) + (C.lt (C.pl))) - 48))), (0, .ref 0)]) (st' := [.int (zI (sgz C.lt C.sz (C.pl + 1))), .int (nI (10 * (((10 * 0) + (C.lt (C.pl))) - 48)))]) (w' := scrW 0 ((C.lt, C.st, C.wd, C.f1, C.f2, C.f3, C.sz, C.pl + 1, C.fa, C.sn) : ScrN)) rfl rfl rfl ?_
          refine ev_top (y := (nI (C.lt (C.pl + 1)))) (by rw [show sgz C.lt C.sz (C.pl + 1) = ((C.lt (C.pl + 1) : Nat) : Int) from by exact hsg1.2]; exact zI_nat _) ?_
          refine ev_iadd_n dX4_readNumber_56 ?_
          refine ev_b bX4_readNumber_57_59 (lv' := [(2, .int (nI (0 + 1))), (1, .int (nI (((10 * 0) + (C.lt (C.pl))) - 48))), (0, .ref 0)]) (st' := [.int (nI (48)), .int (nI ((10 * (((10 * 0) + (C.lt (C.pl))) - 48)) + (C.lt (C.pl + 1))))]) (w2 := scrW 0 ((C.lt, C.st, C.wd, C.f1, C.f2, C.f3, C.sz, C.pl + 1, C.fa, C.sn) : ScrN)) rfl ?_
          refine ev_isub_n (by omega) dX4_readNumber_59 ?_
          refine ev_b bX4_readNumber_60_67 (lv' := [(1, .int (nI (((10 * (((10 * 0) + (C.lt (C.pl))) - 48)) + (C.lt (C.pl + 1))) - 48))), (2, .int (nI (0 + 1))), (0, .ref 0)]) (st' := [.int (nI (1)), .int (nI (C.pl + 1)), .ref 0]) (w2 := scrW 0 ((C.lt, C.st, C.wd, C.f1, C.f2, C.f3, C.sz, C.pl + 1, C.fa, C.sn) : ScrN)) rfl ?_
          refine ev_iadd_n dX4_readNumber_67 ?_
          refine ev_b bX4_readNumber_68_71 (lv' := [(1, .int (nI (((10 * (((10 * 0) + (C.lt (C.pl))) - 48)) + (C.lt (C.pl + 1))) - 48))), (2, .int (nI (0 + 1))), (0, .ref 0)]) (st' := []) (w2 := scrW 0 ((C.lt, C.st, C.wd, C.f1, C.f2, C.f3, C.sz, (C.pl + 1) + 1, C.fa, C.sn) : ScrN)) rfl ?_
          refine ev_iinc_n (x := 0 + 1) (v := 1) dX4_readNumber_71 rfl (by decide) ?_
          refine ev_eq (lv' := [(2, .int (nI ((0 + 1) + 1))), (1, .int (nI (((10 * (((10 * 0) + (C.lt (C.pl))) - 48)) + (C.lt (C.pl + 1))) - 48))), (0, .ref 0)]) rfl rfl rfl ?_
          refine ev_b bX4_readNumber_74_35 (lv' := [(2, .int (nI ((0 + 1) + 1))), (1, .int (nI (((10 * (((10 * 0) + (C.lt (C.pl))) - 48)) + (C.lt (C.pl + 1))) - 48))), (0, .ref 0)]) (st' := [.int (nI (2)), .int (nI ((0 + 1) + 1))]) (w2 := scrW 0 ((C.lt, C.st, C.wd, C.f1, C.f2, C.f3, C.sz, (C.pl + 1) + 1, C.fa, C.sn) : ScrN)) rfl ?_
          refine ev_icmp_ge_n (tgt := 77) (by omega) (by decide) dX4_readNumber_35 (by decide) (fun h35 => ?_) (fun h35 => (by exfalso; omega))
          have e9 : rdNum C.lt C.sz (C.pl, C.fa) = (10 * (C.lt C.pl - 48) + C.lt (C.pl + 1) - 48, (C.pl + 2, -9)) := (if_pos h6).trans ((if_pos h18).trans (if_pos h45))
          refine ev_b bX4_readNumber_77_78 (lv' := [(2, .int (nI ((0 + 1) + 1))), (1, .int (nI (((10 * (((10 * 0) + (C.lt (C.pl))) - 48)) + (C.lt (C.pl + 1))) - 48))), (0, .ref 0)]) (st' := [.int (nI (((10 * (((10 * 0) + (C.lt (C.pl))) - 48)) + (C.lt (C.pl + 1))) - 48))]) (w2 := scrW 0 ((C.lt, C.st, C.wd, C.f1, C.f2, C.f3, C.sz, (C.pl + 1) + 1, C.fa, C.sn) : ScrN)) rfl ?_
          exact ev_iret dX4_readNumber_78 rfl (Nat.le_of_ble_eq_true rfl) (Nat.le_refl _) (Nat.le_refl _) ⟨(congrArg (fun t => some (Value.int (nI t))) (show ((10 * (((10 * 0) + (C.lt (C.pl))) - 48)) + (C.lt (C.pl + 1))) - 48 = (rdNum C.lt C.sz (C.pl, C.fa)).1 from by rw [e9]; try omega)), (by first | exact absurd h18 h45 | rw [e9, h6] | rw [e9])⟩
    · skip
      refine ev_b bX4_readNumber_21_26 (lv' := [(0, .ref 0)]) (st' := [.int (nI (C.pl)), .ref 0]) (w2 := scrW 0 C) rfl ?_
      refine ev_callV (Yc := mX4_noteFault) [0, 1, 2, 3, 4, 5, 6] dX4_readNumber_26 tw_345 kX4_noteFault (m_X4_noteFault C C.pl h6) rfl (st := []) rfl rfl rfl (by decide) rfl (by decide) (Nat.le_of_ble_eq_true rfl) (Nat.le_refl _) (Nat.le_refl _) (fun r w' h => by obtain ⟨-, rfl⟩ := h; exact Nat.le_of_ble_eq_true rfl) ?_
      rintro _ _ ⟨rfl, rfl⟩
      refine ev_eq (lv' := [(0, .ref 0)]) (st' := []) (w' := scrW 0 ((C.lt, C.st, C.wd, C.f1, C.f2, C.f3, C.sz, C.pl, ((C.pl : Nat) : Int), C.sn) : ScrN)) rfl rfl rfl ?_
      have hq1 : PFok C.sz (C.pl, ((C.pl : Nat) : Int)) := ⟨hpl, Or.inr ⟨by show (0 : Int) ≤ ((C.pl : Nat) : Int); omega, by show ((C.pl : Nat) : Int) ≤ ((C.sz : Nat) : Int); omega⟩⟩
      refine ev_b bX4_readNumber_29_35 (lv' := [(2, .int (nI (0))), (1, .int (nI (0))), (0, .ref 0)]) (st' := [.int (nI (2)), .int (nI (0))]) (w2 := scrW 0 ((C.lt, C.st, C.wd, C.f1, C.f2, C.f3, C.sz, C.pl, ((C.pl : Nat) : Int), C.sn) : ScrN)) rfl ?_
      refine ev_icmp_ge_n (tgt := 77) (by decide) (by decide) dX4_readNumber_35 (by decide) (fun h35 => (by exfalso; omega)) (fun h35 => ?_)
      refine ev_b bX4_readNumber_38_39 (lv' := [(2, .int (nI (0))), (1, .int (nI (0))), (0, .ref 0)]) (st' := [.ref 0]) (w2 := scrW 0 ((C.lt, C.st, C.wd, C.f1, C.f2, C.f3, C.sz, C.pl, ((C.pl : Nat) : Int), C.sn) : ScrN)) rfl ?_
      refine ev_callV (Yc := mX4_signHere) [0, 1, 2, 3, 4, 5, 6] dX4_readNumber_39 tw_277 kX4_signHere (m_X4_signHere ((C.lt, C.st, C.wd, C.f1, C.f2, C.f3, C.sz, C.pl, ((C.pl : Nat) : Int), C.sn) : ScrN) hC hq1) rfl (st := []) rfl rfl rfl (by decide) rfl (by decide) (Nat.le_of_ble_eq_true rfl) (Nat.le_refl _) (Nat.le_refl _) (fun r w' h => by obtain ⟨-, rfl⟩ := h; exact Nat.le_of_ble_eq_true rfl) ?_
      rintro _ _ ⟨rfl, rfl⟩
      refine ev_eq (lv' := [(2, .int (nI (0))), (1, .int (nI (0))), (0, .ref 0)]) (st' := [.int (zI (sgz C.lt C.sz (C.pl)))]) (w' := scrW 0 ((C.lt, C.st, C.wd, C.f1, C.f2, C.f3, C.sz, C.pl, ((C.pl : Nat) : Int), C.sn) : ScrN)) rfl rfl rfl ?_
      have hsb := sgz_bnd (lt := C.lt) (n := C.sz) (p := C.pl) hC.2
      refine ev_callS (Yc := mX4_isDigit) [] dX4_readNumber_42 tw_361 kX4_isDigit (m_X4_isDigit (sgz C.lt C.sz (C.pl)) (by constructor <;> omega)) rfl (st := []) rfl (by decide) rfl (by decide) (Nat.le_of_ble_eq_true rfl) (Nat.le_refl _) (Nat.le_refl _) (fun r w' h => by obtain ⟨-, rfl⟩ := h; exact Nat.le_of_ble_eq_true rfl) ?_
      rintro _ _ ⟨rfl, rfl⟩
      refine ev_eq (lv' := [(2, .int (nI (0))), (1, .int (nI (0))), (0, .ref 0)]) (st' := [.int (nI (b01 (isDg (sgz C.lt C.sz (C.pl)))))]) (w' := scrW 0 ((C.lt, C.st, C.wd, C.f1, C.f2, C.f3, C.sz, C.pl, ((C.pl : Nat) : Int), C.sn) : ScrN)) rfl rfl rfl ?_
      refine ev_ifeq_b (tgt := 77) dX4_readNumber_45 (by decide) (fun h45 => ?_) (fun h45 => (by exact absurd h45 h18))
      have e9 : rdNum C.lt C.sz (C.pl, C.fa) = (0, (C.pl, ((C.pl : Nat) : Int))) := (if_pos h6).trans (if_neg h18)
      refine ev_b bX4_readNumber_77_78 (lv' := [(2, .int (nI (0))), (1, .int (nI (0))), (0, .ref 0)]) (st' := [.int (nI (0))]) (w2 := scrW 0 ((C.lt, C.st, C.wd, C.f1, C.f2, C.f3, C.sz, C.pl, ((C.pl : Nat) : Int), C.sn) : ScrN)) rfl ?_
      exact ev_iret dX4_readNumber_78 rfl (Nat.le_of_ble_eq_true rfl) (Nat.le_refl _) (Nat.le_refl _) ⟨(congrArg (fun t => some (Value.int (nI t))) (show 0 = (rdNum C.lt C.sz (C.pl, C.fa)).1 from by rw [e9]; try omega)), (by first | exact absurd h18 h45 | rw [e9, h6] | rw [e9])⟩
  · skip
    have e9 : rdNum C.lt C.sz (C.pl, C.fa) = (0, (C.pl, C.fa)) := if_neg h6
    refine ev_b bX4_readNumber_9_10 (lv' := [(0, .ref 0)]) (st' := [.int (nI (0))]) (w2 := scrW 0 C) rfl ?_
    exact ev_iret dX4_readNumber_10 rfl (Nat.le_of_ble_eq_true rfl) (Nat.le_refl _) (Nat.le_refl _) ⟨(congrArg (fun t => some (Value.int (nI t))) (show 0 = (rdNum C.lt C.sz (C.pl, C.fa)).1 from by rw [e9])), (by rw [e9])⟩
theorem bX4_spells_0_1 {l : Launch} {E : XE} : Snd l E mX4_spells 0 1 (xs [x_iload 2]) := Snd.cons (snd_iload_n (i := 2) dX4_spells_0 rfl) Snd.nil
theorem bX4_spells_4_7 {l : Launch} {E : XE} : Snd l E mX4_spells 4 7 (xs [x_iload 3, x_push (.int (nI 96))]) := Snd.cons (snd_iload_n (i := 3) dX4_spells_4 rfl) (Snd.cons (snd_bipush (v := nI 96) dX4_spells_5 (by decide)) Snd.nil)
theorem bX4_spells_10_12 {l : Launch} {E : XE} : Snd l E mX4_spells 10 12 (xs [x_iload 3, x_iload 2]) := Snd.cons (snd_iload_n (i := 3) dX4_spells_10 rfl) (Snd.cons (snd_iload_n (i := 2) dX4_spells_11 rfl) Snd.nil)
theorem bX4_spells_13_14 {l : Launch} {E : XE} : Snd l E mX4_spells 13 14 (xs [x_aload 1]) := Snd.cons (snd_aload_n (i := 1) dX4_spells_13 rfl) Snd.nil
theorem bX4_spells_22_25 {l : Launch} {E : XE} : Snd l E mX4_spells 22 25 (xs [x_push (.int (nI 0)), x_istore 4]) := Snd.cons (snd_iconst (v := nI 0) dX4_spells_22 (by decide)) (Snd.cons (snd_istore dX4_spells_23 (by decide)) Snd.nil)
theorem bX4_spells_25_28 {l : Launch} {E : XE} : Snd l E mX4_spells 25 28 (xs [x_iload 4, x_aload 1]) := Snd.cons (snd_iload dX4_spells_25) (Snd.cons (snd_aload_n (i := 1) dX4_spells_27 rfl) Snd.nil)
theorem bX4_spells_60_61 {l : Launch} {E : XE} : Snd l E mX4_spells 60 61 (xs [x_push (.int (nI 1))]) := Snd.cons (snd_iconst (v := nI 1) dX4_spells_60 (by decide)) Snd.nil
theorem bX4_spells_34_41 {l : Launch} {E : XE} : Snd l E mX4_spells 34 41 (xs [x_aload 0, x_get 5 0, x_iload 2, x_iload 4]) := Snd.cons (snd_aload_n (i := 0) dX4_spells_34 rfl) (Snd.cons (snd_get (ci := 5) (k := 0) dX4_spells_35 rfl inX4 (by decide) tw_160) (Snd.cons (snd_iload_n (i := 2) dX4_spells_38 rfl) (Snd.cons (snd_iload dX4_spells_39) Snd.nil)))
theorem bX4_spells_43_46 {l : Launch} {E : XE} : Snd l E mX4_spells 43 46 (xs [x_aload 1, x_iload 4]) := Snd.cons (snd_aload_n (i := 1) dX4_spells_43 rfl) (Snd.cons (snd_iload dX4_spells_44) Snd.nil)
theorem bX4_spells_57_25 {l : Launch} {E : XE} : Snd l E mX4_spells 57 25 (xs [x_id]) := Snd.cons (snd_goto (tgt := 25) dX4_spells_57 (by decide)) Snd.nil
theorem bX4_spells_52_53 {l : Launch} {E : XE} : Snd l E mX4_spells 52 53 (xs [x_push (.int (nI 0))]) := Snd.cons (snd_iconst (v := nI 0) dX4_spells_52 (by decide)) Snd.nil
theorem bX4_spells_20_21 {l : Launch} {E : XE} : Snd l E mX4_spells 20 21 (xs [x_push (.int (nI 0))]) := Snd.cons (snd_iconst (v := nI 0) dX4_spells_20 (by decide)) Snd.nil
set_option maxHeartbeats 4000000 in
set_option maxRecDepth 100000 in
theorem m_X4_spells {l : Launch} {E : XE} (C : ScrN) (c : UInt32) (b p e : Nat) (hc : c.toNat = b) (hb : b < 5) (hC : ScrOK C) (hp : p ≤ C.sz) (he : e ≤ C.sz) : MetE l E mX4_spells (6) 0 0 [.ref 0, .float c, .int (nI (p)), .int (nI (e))] (scrW 0 C) (fun r w' => r = some (.int (nI (b01 (splW C.lt b p e)))) ∧ w' = scrW 0 C) := by
  refine MetE.of (by decide +kernel) (Nat.le_of_ble_eq_true rfl) ?_
  have hl5 := sL_lt b (by omega)
  have hC1 := hC.1
  refine ev_eq (lv' := [(0, .ref 0), (1, .float c), (2, .int (nI (p))), (3, .int (nI (e)))]) (st' := []) (w' := scrW 0 C) rfl rfl rfl ?_
  refine ev_b bX4_spells_0_1 (lv' := [(0, .ref 0), (1, .float c), (2, .int (nI (p))), (3, .int (nI (e)))]) (st' := [.int (nI (p))]) (w2 := scrW 0 C) rfl ?_
  refine ev_if_lt_n (tgt := 20) (by omega) dX4_spells_1 (by decide) (fun h1 => (by exfalso; omega)) (fun h1 => ?_)
  refine ev_b bX4_spells_4_7 (lv' := [(0, .ref 0), (1, .float c), (2, .int (nI (p))), (3, .int (nI (e)))]) (st' := [.int (nI (96)), .int (nI (e))]) (w2 := scrW 0 C) rfl ?_
  refine ev_icmp_gt_n (tgt := 20) (by omega) (by decide) dX4_spells_7 (by decide) (fun h7 => (by exfalso; omega)) (fun h7 => ?_)
  refine ev_b bX4_spells_10_12 (lv' := [(0, .ref 0), (1, .float c), (2, .int (nI (p))), (3, .int (nI (e)))]) (st' := [.int (nI (p)), .int (nI (e))]) (w2 := scrW 0 C) rfl ?_
  refine ev_top (y := zI (((p : Nat) : Int))) (zI_nat _).symm ?_
  refine ev_top2 (y := zI (((e : Nat) : Int))) (zI_nat _).symm ?_
  refine ev_isub_z dX4_spells_12 ?_
  refine ev_b bX4_spells_13_14 (lv' := [(0, .ref 0), (1, .float c), (2, .int (nI (p))), (3, .int (nI (e)))]) (st' := [.float c, .int (zI ((((e : Nat) : Int)) - (((p : Nat) : Int))))]) (w2 := scrW 0 C) rfl ?_
  refine ev_callVs (Yc := mJ0_length_8abf5) dX4_spells_14 tw_293 kJ0_length_8abf5 rfl hc (by omega) (m_J0_length_8abf5 c (UInt32.ofNat (10 + b)) b hc (by omega) (sU (by omega))) rfl (st := [.int (zI ((((e : Nat) : Int)) - (((p : Nat) : Int))))]) rfl (by decide) (Nat.le_of_ble_eq_true rfl) (Nat.le_refl _) (Nat.le_refl _) ?_
  rintro _ _ ⟨rfl, rfl⟩
  refine ev_eq (lv' := [(0, .ref 0), (1, .float c), (2, .int (nI (p))), (3, .int (nI (e)))]) (st' := [.int (nI (sLen.getD b 0)), .int (zI ((((e : Nat) : Int)) - (((p : Nat) : Int))))]) (w' := scrW 0 C) rfl rfl rfl ?_
  refine ev_top (y := zI (((sLen.getD b 0 : Nat) : Int))) (zI_nat _).symm ?_
  refine ev_icmp_eq_z (tgt := 22) (by constructor <;> omega) (by constructor <;> omega) dX4_spells_17 (by decide) (fun h17 => ?_) (fun h17 => ?_)
  · skip
    refine ev_b bX4_spells_22_25 (lv' := [(4, .int (nI (0))), (0, .ref 0), (1, .float c), (2, .int (nI (p))), (3, .int (nI (e)))]) (st' := []) (w2 := scrW 0 C) rfl ?_
    have L25 : ∀ (j_ k : Nat), k + j_ = sLen.getD b 0 → (∀ i, i < k → nI (C.lt (p + i)) = (sByt.getD b []).getD i 0) → Ev l E mX4_spells (6) 0 0 (scrW 0 C) (fun r w' => r = some (.int (nI (b01 (splW C.lt b p e)))) ∧ w' = scrW 0 C) 0 0 25 [(4, .int (nI (k))), (0, .ref 0), (1, .float c), (2, .int (nI (p))), (3, .int (nI (e)))] [] (scrW 0 C) := by
      intro j_
      induction j_ with
      | zero =>
        intro k hk25  hinv25
        replace hk25 : k = sLen.getD b 0 := hk25
        subst hk25
        refine ev_b bX4_spells_25_28 (lv' := [(4, .int (nI ((sLen.getD b 0)))), (0, .ref 0), (1, .float c), (2, .int (nI (p))), (3, .int (nI (e)))]) (st' := [.float c, .int (nI ((sLen.getD b 0)))]) (w2 := scrW 0 C) rfl ?_
        refine ev_callVs (Yc := mJ0_length_8abf5) dX4_spells_28 tw_293 kJ0_length_8abf5 rfl hc (by omega) (m_J0_length_8abf5 c (UInt32.ofNat (10 + b)) b hc (by omega) (sU (by omega))) rfl (st := [.int (nI ((sLen.getD b 0)))]) rfl (by decide) (Nat.le_of_ble_eq_true rfl) (Nat.le_refl _) (Nat.le_refl _) ?_
        rintro _ _ ⟨rfl, rfl⟩
        refine ev_eq (lv' := [(4, .int (nI ((sLen.getD b 0)))), (0, .ref 0), (1, .float c), (2, .int (nI (p))), (3, .int (nI (e)))]) (st' := [.int (nI (sLen.getD b 0)), .int (nI ((sLen.getD b 0)))]) (w' := scrW 0 C) rfl rfl rfl ?_
        refine ev_icmp_ge_n (tgt := 60) (by omega) (by omega) dX4_spells_31 (by decide) (fun h31 => ?_) (fun h31 => (by exfalso; omega))
        refine ev_b bX4_spells_60_61 (lv' := [(4, .int (nI ((sLen.getD b 0)))), (0, .ref 0), (1, .float c), (2, .int (nI (p))), (3, .int (nI (e)))]) (st' := [.int (nI (1))]) (w2 := scrW 0 C) rfl ?_
        exact ev_zret dX4_spells_61 rfl rfl (Nat.le_of_ble_eq_true rfl) (Nat.le_refl _) (Nat.le_refl _) ⟨(congrArg (fun t => some (Value.int (nI t))) (b01_t (by exact ⟨by omega, hinv25⟩)).symm), rfl⟩
      | succ j_ ih25 =>
        intro k hk25  hinv25
        have hlt25 : k < sLen.getD b 0 := by omega
        have hkl := hlt25
        refine ev_b bX4_spells_25_28 (lv' := [(4, .int (nI (k))), (0, .ref 0), (1, .float c), (2, .int (nI (p))), (3, .int (nI (e)))]) (st' := [.float c, .int (nI (k))]) (w2 := scrW 0 C) rfl ?_
        refine ev_callVs (Yc := mJ0_length_8abf5) dX4_spells_28 tw_293 kJ0_length_8abf5 rfl hc (by omega) (m_J0_length_8abf5 c (UInt32.ofNat (10 + b)) b hc (by omega) (sU (by omega))) rfl (st := [.int (nI (k))]) rfl (by decide) (Nat.le_of_ble_eq_true rfl) (Nat.le_refl _) (Nat.le_refl _) ?_
        rintro _ _ ⟨rfl, rfl⟩
        refine ev_eq (lv' := [(4, .int (nI (k))), (0, .ref 0), (1, .float c), (2, .int (nI (p))), (3, .int (nI (e)))]) (st' := [.int (nI (sLen.getD b 0)), .int (nI (k))]) (w' := scrW 0 C) rfl rfl rfl ?_
        refine ev_icmp_ge_n (tgt := 60) (by omega) (by omega) dX4_spells_31 (by decide) (fun h31 => (by exfalso; omega)) (fun h31 => ?_)
        refine ev_b bX4_spells_34_41 (lv' := [(4, .int (nI (k))), (0, .ref 0), (1, .float c), (2, .int (nI (p))), (3, .int (nI (e)))]) (st' := [.int (nI (k)), .int (nI (p)), .ref 1]) (w2 := scrW 0 C) rfl ?_
        refine ev_iadd_n dX4_spells_41 ?_
        refine ev_iald_n (f := C.lt) dX4_spells_42 rfl (by omega) (by decide) ?_
        refine ev_b bX4_spells_43_46 (lv' := [(4, .int (nI (k))), (0, .ref 0), (1, .float c), (2, .int (nI (p))), (3, .int (nI (e)))]) (st' := [.int (nI (k)), .float c, .int (nI (C.lt (p + k)))]) (w2 := scrW 0 C) rfl ?_
        refine ev_callVs (Yc := mJ0_charAt_5068e) dX4_spells_46 tw_303 kJ0_charAt_5068e rfl hc (by omega) (m_J0_charAt_5068e c (UInt32.ofNat (10 + b)) b k hc (by omega) (sU (by omega)) hkl) rfl (st := [.int (nI (C.lt (p + k)))]) rfl (by decide) (Nat.le_of_ble_eq_true rfl) (Nat.le_refl _) (Nat.le_refl _) ?_
        rintro _ _ ⟨rfl, rfl⟩
        refine ev_eq (lv' := [(4, .int (nI (k))), (0, .ref 0), (1, .float c), (2, .int (nI (p))), (3, .int (nI (e)))]) (st' := [.int ((sByt.getD b []).getD k 0), .int (nI (C.lt (p + k)))]) (w' := scrW 0 C) rfl rfl rfl ?_
        refine ev_icmp_eq (tgt := 54) dX4_spells_49 (by decide) (fun h49 => ?_) (fun h49 => ?_)
        · skip
          have hnext : ∀ i, i < k + 1 → nI (C.lt (p + i)) = (sByt.getD b []).getD i 0 := fun i hi => by
            by_cases e : i = k
            · rw [e]; exact h49
            · exact hinv25 i (by omega)
          refine ev_iinc_n (x := k) (v := 1) dX4_spells_54 rfl (by decide) ?_
          refine ev_eq (lv' := [(4, .int (nI (k + 1))), (0, .ref 0), (1, .float c), (2, .int (nI (p))), (3, .int (nI (e)))]) rfl rfl rfl ?_
          refine ev_b bX4_spells_57_25 (lv' := [(4, .int (nI (k + 1))), (0, .ref 0), (1, .float c), (2, .int (nI (p))), (3, .int (nI (e)))]) (st' := []) (w2 := scrW 0 C) rfl ?_
          rw [show nI (k + 1) = nI ((k + 1)) from congrArg nI (by omega)]
          exact ih25 (k + 1) (by omega) hnext
        · skip
          refine ev_b bX4_spells_52_53 (lv' := [(4, .int (nI (k))), (0, .ref 0), (1, .float c), (2, .int (nI (p))), (3, .int (nI (e)))]) (st' := [.int (nI (0))]) (w2 := scrW 0 C) rfl ?_
          exact ev_zret dX4_spells_53 rfl rfl (Nat.le_of_ble_eq_true rfl) (Nat.le_refl _) (Nat.le_refl _) ⟨(congrArg (fun t => some (Value.int (nI t))) (b01_f (by exact fun z => h49 (z.2 k hkl))).symm), rfl⟩
    exact L25 (sLen.getD b 0) 0 (by omega) (fun i hi => absurd hi (Nat.not_lt_zero i))
  · skip
    refine ev_b bX4_spells_20_21 (lv' := [(0, .ref 0), (1, .float c), (2, .int (nI (p))), (3, .int (nI (e)))]) (st' := [.int (nI (0))]) (w2 := scrW 0 C) rfl ?_
    exact ev_zret dX4_spells_21 rfl rfl (Nat.le_of_ble_eq_true rfl) (Nat.le_refl _) (Nat.le_refl _) ⟨(congrArg (fun t => some (Value.int (nI t))) (b01_f (by exact fun z => h17 (by have := z.1; omega))).symm), rfl⟩
theorem bX4_wordFrom_0_5 {l : Launch} {E : XE} : Snd l E mX4_wordFrom 0 5 (xs [x_aload 0, x_push (.float 0), x_iload 1, x_iload 2]) := Snd.cons (snd_aload_n (i := 0) dX4_wordFrom_0 rfl) (Snd.cons (snd_ldcS (q := 0) (b := 0) (tx := "bid") dX4_wordFrom_1 (by decide)) (Snd.cons (snd_iload_n (i := 1) dX4_wordFrom_3 rfl) (Snd.cons (snd_iload_n (i := 2) dX4_wordFrom_4 rfl) Snd.nil)))
theorem bX4_wordFrom_13_18 {l : Launch} {E : XE} : Snd l E mX4_wordFrom 13 18 (xs [x_aload 0, x_push (.float 1), x_iload 1, x_iload 2]) := Snd.cons (snd_aload_n (i := 0) dX4_wordFrom_13 rfl) (Snd.cons (snd_ldcS (q := 0) (b := 1) (tx := "off") dX4_wordFrom_14 (by decide)) (Snd.cons (snd_iload_n (i := 1) dX4_wordFrom_16 rfl) (Snd.cons (snd_iload_n (i := 2) dX4_wordFrom_17 rfl) Snd.nil)))
theorem bX4_wordFrom_26_31 {l : Launch} {E : XE} : Snd l E mX4_wordFrom 26 31 (xs [x_aload 0, x_push (.float 2), x_iload 1, x_iload 2]) := Snd.cons (snd_aload_n (i := 0) dX4_wordFrom_26 rfl) (Snd.cons (snd_ldcS (q := 0) (b := 2) (tx := "kind") dX4_wordFrom_27 (by decide)) (Snd.cons (snd_iload_n (i := 1) dX4_wordFrom_29 rfl) (Snd.cons (snd_iload_n (i := 2) dX4_wordFrom_30 rfl) Snd.nil)))
theorem bX4_wordFrom_39_44 {l : Launch} {E : XE} : Snd l E mX4_wordFrom 39 44 (xs [x_aload 0, x_push (.float 3), x_iload 1, x_iload 2]) := Snd.cons (snd_aload_n (i := 0) dX4_wordFrom_39 rfl) (Snd.cons (snd_ldcS (q := 0) (b := 3) (tx := "keep") dX4_wordFrom_40 (by decide)) (Snd.cons (snd_iload_n (i := 1) dX4_wordFrom_42 rfl) (Snd.cons (snd_iload_n (i := 2) dX4_wordFrom_43 rfl) Snd.nil)))
theorem bX4_wordFrom_52_57 {l : Launch} {E : XE} : Snd l E mX4_wordFrom 52 57 (xs [x_aload 0, x_push (.float 4), x_iload 1, x_iload 2]) := Snd.cons (snd_aload_n (i := 0) dX4_wordFrom_52 rfl) (Snd.cons (snd_ldcS (q := 0) (b := 4) (tx := "price") dX4_wordFrom_53 (by decide)) (Snd.cons (snd_iload_n (i := 1) dX4_wordFrom_55 rfl) (Snd.cons (snd_iload_n (i := 2) dX4_wordFrom_56 rfl) Snd.nil)))
theorem bX4_wordFrom_67_68 {l : Launch} {E : XE} : Snd l E mX4_wordFrom 67 68 (xs [x_push (.int (-1))]) := Snd.cons (snd_iconst (v := -1) dX4_wordFrom_67 (by decide)) Snd.nil
theorem bX4_wordFrom_63_68 {l : Launch} {E : XE} : Snd l E mX4_wordFrom 63 68 (xs [x_push (.int (nI 4)), x_id]) := Snd.cons (snd_iconst (v := nI 4) dX4_wordFrom_63 (by decide)) (Snd.cons (snd_goto (tgt := 68) dX4_wordFrom_64 (by decide)) Snd.nil)
theorem bX4_wordFrom_50_51 {l : Launch} {E : XE} : Snd l E mX4_wordFrom 50 51 (xs [x_push (.int (nI 3))]) := Snd.cons (snd_iconst (v := nI 3) dX4_wordFrom_50 (by decide)) Snd.nil
theorem bX4_wordFrom_37_38 {l : Launch} {E : XE} : Snd l E mX4_wordFrom 37 38 (xs [x_push (.int (nI 2))]) := Snd.cons (snd_iconst (v := nI 2) dX4_wordFrom_37 (by decide)) Snd.nil
theorem bX4_wordFrom_24_25 {l : Launch} {E : XE} : Snd l E mX4_wordFrom 24 25 (xs [x_push (.int (nI 1))]) := Snd.cons (snd_iconst (v := nI 1) dX4_wordFrom_24 (by decide)) Snd.nil
theorem bX4_wordFrom_11_12 {l : Launch} {E : XE} : Snd l E mX4_wordFrom 11 12 (xs [x_push (.int (nI 0))]) := Snd.cons (snd_iconst (v := nI 0) dX4_wordFrom_11 (by decide)) Snd.nil
set_option maxHeartbeats 4000000 in
set_option maxRecDepth 100000 in
theorem m_X4_wordFrom {l : Launch} {E : XE} (C : ScrN) (p e : Nat) (hC : ScrOK C) (hp : p ≤ C.sz) (he : e ≤ C.sz) : MetE l E mX4_wordFrom (7) 0 0 [.ref 0, .int (nI (p)), .int (nI (e))] (scrW 0 C) (fun r w' => r = some (.int (zI (wordF C.lt p e))) ∧ w' = scrW 0 C) := by
  refine MetE.of (by decide +kernel) (Nat.le_of_ble_eq_true rfl) ?_
  refine ev_eq (lv' := [(0, .ref 0), (1, .int (nI (p))), (2, .int (nI (e)))]) (st' := []) (w' := scrW 0 C) rfl rfl rfl ?_
  refine ev_b bX4_wordFrom_0_5 (lv' := [(0, .ref 0), (1, .int (nI (p))), (2, .int (nI (e)))]) (st' := [.int (nI (e)), .int (nI (p)), .float 0, .ref 0]) (w2 := scrW 0 C) rfl ?_
  refine ev_callV (Yc := mX4_spells) [0, 1, 2, 3, 4, 5, 6] dX4_wordFrom_5 tw_289 kX4_spells (m_X4_spells C 0 0 p e (by decide) (by decide) hC hp he) rfl (st := []) rfl rfl rfl (by decide) rfl (by decide) (Nat.le_of_ble_eq_true rfl) (Nat.le_refl _) (Nat.le_refl _) (fun r w' h => by obtain ⟨-, rfl⟩ := h; exact Nat.le_of_ble_eq_true rfl) ?_
  rintro _ _ ⟨rfl, rfl⟩
  refine ev_eq (lv' := [(0, .ref 0), (1, .int (nI (p))), (2, .int (nI (e)))]) (st' := [.int (nI (b01 (splW C.lt 0 p e)))]) (w' := scrW 0 C) rfl rfl rfl ?_
  refine ev_ifeq_b (tgt := 13) dX4_wordFrom_8 (by decide) (fun h8 => ?_) (fun h8 => ?_)
  · skip
    refine ev_b bX4_wordFrom_13_18 (lv' := [(0, .ref 0), (1, .int (nI (p))), (2, .int (nI (e)))]) (st' := [.int (nI (e)), .int (nI (p)), .float 1, .ref 0]) (w2 := scrW 0 C) rfl ?_
    refine ev_callV (Yc := mX4_spells) [0, 1, 2, 3, 4, 5, 6] dX4_wordFrom_18 tw_289 kX4_spells (m_X4_spells C 1 1 p e (by decide) (by decide) hC hp he) rfl (st := []) rfl rfl rfl (by decide) rfl (by decide) (Nat.le_of_ble_eq_true rfl) (Nat.le_refl _) (Nat.le_refl _) (fun r w' h => by obtain ⟨-, rfl⟩ := h; exact Nat.le_of_ble_eq_true rfl) ?_
    rintro _ _ ⟨rfl, rfl⟩
    refine ev_eq (lv' := [(0, .ref 0), (1, .int (nI (p))), (2, .int (nI (e)))]) (st' := [.int (nI (b01 (splW C.lt 1 p e)))]) (w' := scrW 0 C) rfl rfl rfl ?_
    refine ev_ifeq_b (tgt := 26) dX4_wordFrom_21 (by decide) (fun h21 => ?_) (fun h21 => ?_)
    · skip
      refine ev_b bX4_wordFrom_26_31 (lv' := [(0, .ref 0), (1, .int (nI (p))), (2, .int (nI (e)))]) (st' := [.int (nI (e)), .int (nI (p)), .float 2, .ref 0]) (w2 := scrW 0 C) rfl ?_
      refine ev_callV (Yc := mX4_spells) [0, 1, 2, 3, 4, 5, 6] dX4_wordFrom_31 tw_289 kX4_spells (m_X4_spells C 2 2 p e (by decide) (by decide) hC hp he) rfl (st := []) rfl rfl rfl (by decide) rfl (by decide) (Nat.le_of_ble_eq_true rfl) (Nat.le_refl _) (Nat.le_refl _) (fun r w' h => by obtain ⟨-, rfl⟩ := h; exact Nat.le_of_ble_eq_true rfl) ?_
      rintro _ _ ⟨rfl, rfl⟩
      refine ev_eq (lv' := [(0, .ref 0), (1, .int (nI (p))), (2, .int (nI (e)))]) (st' := [.int (nI (b01 (splW C.lt 2 p e)))]) (w' := scrW 0 C) rfl rfl rfl ?_
      refine ev_ifeq_b (tgt := 39) dX4_wordFrom_34 (by decide) (fun h34 => ?_) (fun h34 => ?_)
      · skip
        refine ev_b bX4_wordFrom_39_44 (lv' := [(0, .ref 0), (1, .int (nI (p))), (2, .int (nI (e)))]) (st' := [.int (nI (e)), .int (nI (p)), .float 3, .ref 0]) (w2 := scrW 0 C) rfl ?_
        refine ev_callV (Yc := mX4_spells) [0, 1, 2, 3, 4, 5, 6] dX4_wordFrom_44 tw_289 kX4_spells (m_X4_spells C 3 3 p e (by decide) (by decide) hC hp he) rfl (st := []) rfl rfl rfl (by decide) rfl (by decide) (Nat.le_of_ble_eq_true rfl) (Nat.le_refl _) (Nat.le_refl _) (fun r w' h => by obtain ⟨-, rfl⟩ := h; exact Nat.le_of_ble_eq_true rfl) ?_
        rintro _ _ ⟨rfl, rfl⟩
        refine ev_eq (lv' := [(0, .ref 0), (1, .int (nI (p))), (2, .int (nI (e)))]) (st' := [.int (nI (b01 (splW C.lt 3 p e)))]) (w' := scrW 0 C) rfl rfl rfl ?_
        refine ev_ifeq_b (tgt := 52) dX4_wordFrom_47 (by decide) (fun h47 => ?_) (fun h47 => ?_)
        · skip
          refine ev_b bX4_wordFrom_52_57 (lv' := [(0, .ref 0), (1, .int (nI (p))), (2, .int (nI (e)))]) (st' := [.int (nI (e)), .int (nI (p)), .float 4, .ref 0]) (w2 := scrW 0 C) rfl ?_
          refine ev_callV (Yc := mX4_spells) [0, 1, 2, 3, 4, 5, 6] dX4_wordFrom_57 tw_289 kX4_spells (m_X4_spells C 4 4 p e (by decide) (by decide) hC hp he) rfl (st := []) rfl rfl rfl (by decide) rfl (by decide) (Nat.le_of_ble_eq_true rfl) (Nat.le_refl _) (Nat.le_refl _) (fun r w' h => by obtain ⟨-, rfl⟩ := h; exact Nat.le_of_ble_eq_true rfl) ?_
          rintro _ _ ⟨rfl, rfl⟩
          refine ev_eq (lv' := [(0, .ref 0), (1, .int (nI (p))), (2, .int (nI (e)))]) (st' := [.int (nI (b01 (splW C.lt 4 p e)))]) (w' := scrW 0 C) rfl rfl rfl ?_
          refine ev_ifeq_b (tgt := 67) dX4_wordFrom_60 (by decide) (fun h60 => ?_) (fun h60 => ?_)
          · skip
            have e9 : wordF C.lt p e = -1 := (if_neg h8).trans ((if_neg h21).trans ((if_neg h34).trans ((if_neg h47).trans (if_neg h60))))
            refine ev_b bX4_wordFrom_67_68 (lv' := [(0, .ref 0), (1, .int (nI (p))), (2, .int (nI (e)))]) (st' := [.int (-1)]) (w2 := scrW 0 C) rfl ?_
            exact ev_iret dX4_wordFrom_68 rfl (Nat.le_of_ble_eq_true rfl) (Nat.le_refl _) (Nat.le_refl _) ⟨(by rw [e9]; rfl), rfl⟩
          · skip
            have e9 : wordF C.lt p e = 4 := (if_neg h8).trans ((if_neg h21).trans ((if_neg h34).trans ((if_neg h47).trans (if_pos h60))))
            refine ev_b bX4_wordFrom_63_68 (lv' := [(0, .ref 0), (1, .int (nI (p))), (2, .int (nI (e)))]) (st' := [.int (nI (4))]) (w2 := scrW 0 C) rfl ?_
            exact ev_iret dX4_wordFrom_68 rfl (Nat.le_of_ble_eq_true rfl) (Nat.le_refl _) (Nat.le_refl _) ⟨(congrArg (fun t => some (Value.int t)) (show nI (4) = zI (wordF C.lt p e) from by rw [← zI_nat]; exact congrArg zI (by rw [e9]; rfl))), rfl⟩
        · skip
          have e9 : wordF C.lt p e = 3 := (if_neg h8).trans ((if_neg h21).trans ((if_neg h34).trans (if_pos h47)))
          refine ev_b bX4_wordFrom_50_51 (lv' := [(0, .ref 0), (1, .int (nI (p))), (2, .int (nI (e)))]) (st' := [.int (nI (3))]) (w2 := scrW 0 C) rfl ?_
          exact ev_iret dX4_wordFrom_51 rfl (Nat.le_of_ble_eq_true rfl) (Nat.le_refl _) (Nat.le_refl _) ⟨(congrArg (fun t => some (Value.int t)) (show nI (3) = zI (wordF C.lt p e) from by rw [← zI_nat]; exact congrArg zI (by rw [e9]; rfl))), rfl⟩
      · skip
        have e9 : wordF C.lt p e = 2 := (if_neg h8).trans ((if_neg h21).trans (if_pos h34))
        refine ev_b bX4_wordFrom_37_38 (lv' := [(0, .ref 0), (1, .int (nI (p))), (2, .int (nI (e)))]) (st' := [.int (nI (2))]) (w2 := scrW 0 C) rfl ?_
        exact ev_iret dX4_wordFrom_38 rfl (Nat.le_of_ble_eq_true rfl) (Nat.le_refl _) (Nat.le_refl _) ⟨(congrArg (fun t => some (Value.int t)) (show nI (2) = zI (wordF C.lt p e) from by rw [← zI_nat]; exact congrArg zI (by rw [e9]; rfl))), rfl⟩
    · skip
      have e9 : wordF C.lt p e = 1 := (if_neg h8).trans (if_pos h21)
      refine ev_b bX4_wordFrom_24_25 (lv' := [(0, .ref 0), (1, .int (nI (p))), (2, .int (nI (e)))]) (st' := [.int (nI (1))]) (w2 := scrW 0 C) rfl ?_
      exact ev_iret dX4_wordFrom_25 rfl (Nat.le_of_ble_eq_true rfl) (Nat.le_refl _) (Nat.le_refl _) ⟨(congrArg (fun t => some (Value.int t)) (show nI (1) = zI (wordF C.lt p e) from by rw [← zI_nat]; exact congrArg zI (by rw [e9]; rfl))), rfl⟩
  · skip
    have e9 : wordF C.lt p e = 0 := if_pos h8
    refine ev_b bX4_wordFrom_11_12 (lv' := [(0, .ref 0), (1, .int (nI (p))), (2, .int (nI (e)))]) (st' := [.int (nI (0))]) (w2 := scrW 0 C) rfl ?_
    exact ev_iret dX4_wordFrom_12 rfl (Nat.le_of_ble_eq_true rfl) (Nat.le_refl _) (Nat.le_refl _) ⟨(congrArg (fun t => some (Value.int t)) (show nI (0) = zI (wordF C.lt p e) from by rw [← zI_nat]; exact congrArg zI (by rw [e9]; rfl))), rfl⟩
theorem bX4_readWord_0_7 {l : Launch} {E : XE} : Snd l E mX4_readWord 0 7 (xs [x_aload 0, x_get 5 7, x_istore 1, x_push (.int (nI 0)), x_istore 2]) := Snd.cons (snd_aload_n (i := 0) dX4_readWord_0 rfl) (Snd.cons (snd_get (ci := 5) (k := 7) dX4_readWord_1 rfl inX4 (by decide) tw_168) (Snd.cons (snd_istore_n (i := 1) dX4_readWord_4 rfl (by decide)) (Snd.cons (snd_iconst (v := nI 0) dX4_readWord_5 (by decide)) (Snd.cons (snd_istore_n (i := 2) dX4_readWord_6 rfl (by decide)) Snd.nil))))
theorem bX4_readWord_7_10 {l : Launch} {E : XE} : Snd l E mX4_readWord 7 10 (xs [x_iload 2, x_push (.int (nI 96))]) := Snd.cons (snd_iload_n (i := 2) dX4_readWord_7 rfl) (Snd.cons (snd_bipush (v := nI 96) dX4_readWord_8 (by decide)) Snd.nil)
theorem bX4_readWord_39_45 {l : Launch} {E : XE} : Snd l E mX4_readWord 39 45 (xs [x_aload 0, x_iload 1, x_aload 0, x_get 5 7]) := Snd.cons (snd_aload_n (i := 0) dX4_readWord_39 rfl) (Snd.cons (snd_iload_n (i := 1) dX4_readWord_40 rfl) (Snd.cons (snd_aload_n (i := 0) dX4_readWord_41 rfl) (Snd.cons (snd_get (ci := 5) (k := 7) dX4_readWord_42 rfl inX4 (by decide) tw_168) Snd.nil)))
theorem bX4_readWord_48_51 {l : Launch} {E : XE} : Snd l E mX4_readWord 48 51 (xs [x_istore 2, x_iload 2, x_push (.int (-1))]) := Snd.cons (snd_istore_n (i := 2) dX4_readWord_48 rfl (by decide)) (Snd.cons (snd_iload_n (i := 2) dX4_readWord_49 rfl) (Snd.cons (snd_iconst (v := -1) dX4_readWord_50 (by decide)) Snd.nil))
theorem bX4_readWord_59_60 {l : Launch} {E : XE} : Snd l E mX4_readWord 59 60 (xs [x_iload 2]) := Snd.cons (snd_iload_n (i := 2) dX4_readWord_59 rfl) Snd.nil
theorem bX4_readWord_54_56 {l : Launch} {E : XE} : Snd l E mX4_readWord 54 56 (xs [x_aload 0, x_iload 1]) := Snd.cons (snd_aload_n (i := 0) dX4_readWord_54 rfl) (Snd.cons (snd_iload_n (i := 1) dX4_readWord_55 rfl) Snd.nil)
theorem bX4_readWord_13_14 {l : Launch} {E : XE} : Snd l E mX4_readWord 13 14 (xs [x_aload 0]) := Snd.cons (snd_aload_n (i := 0) dX4_readWord_13 rfl) Snd.nil
theorem bX4_readWord_23_29 {l : Launch} {E : XE} : Snd l E mX4_readWord 23 29 (xs [x_aload 0, x_dup, x_get 5 7, x_push (.int (nI 1))]) := Snd.cons (snd_aload_n (i := 0) dX4_readWord_23 rfl) (Snd.cons (snd_dup dX4_readWord_24) (Snd.cons (snd_get (ci := 5) (k := 7) dX4_readWord_25 rfl inX4 (by decide) tw_168) (Snd.cons (snd_iconst (v := nI 1) dX4_readWord_28 (by decide)) Snd.nil)))
theorem bX4_readWord_30_33 {l : Launch} {E : XE} : Snd l E mX4_readWord 30 33 (xs [x_puti 5 7]) := Snd.cons (snd_puti (ci := 5) (k := 7) dX4_readWord_30 rfl inX4 tyX4_ok nmX4 (by decide) tw_168 rfl rfl) Snd.nil
theorem bX4_readWord_36_7 {l : Launch} {E : XE} : Snd l E mX4_readWord 36 7 (xs [x_id]) := Snd.cons (snd_goto (tgt := 7) dX4_readWord_36 (by decide)) Snd.nil
set_option maxHeartbeats 4000000 in
set_option maxRecDepth 100000 in
theorem m_X4_readWord {l : Launch} {E : XE} (C : ScrN) (hC : ScrOK C) (hq : PFok C.sz (C.pl, C.fa)) (h9 : C.fa = -9) : MetE l E mX4_readWord (8) 0 0 [.ref 0] (scrW 0 C) (fun r w' => r = some (.int (zI ((rdWord C.lt C.sz C.pl).1))) ∧ w' = scrW 0 ((C.lt, C.st, C.wd, C.f1, C.f2, C.f3, C.sz, ((rdWord C.lt C.sz C.pl).2).1, ((rdWord C.lt C.sz C.pl).2).2, C.sn) : ScrN)) := by
  refine MetE.of (by decide +kernel) (Nat.le_of_ble_eq_true rfl) ?_
  have hsz := hC.1
  have hpl : C.pl ≤ C.sz := hq.1
  have hfa : C.fa = -9 ∨ (0 ≤ C.fa ∧ C.fa ≤ ((C.sz : Nat) : Int)) := hq.2
  refine ev_eq (lv' := [(0, .ref 0)]) (st' := []) (w' := scrW 0 C) rfl rfl rfl ?_
  refine ev_b bX4_readWord_0_7 (lv' := [(2, .int (nI (0))), (1, .int (nI (C.pl))), (0, .ref 0)]) (st' := []) (w2 := scrW 0 C) rfl ?_
  have L7 : ∀ (j_ k : Nat), k + j_ = 96 → ∀ (p1 : Nat), (p1 ≤ C.sz ∧ wrdEnd C.lt C.sz (96 - k) p1 = (wrdEnd C.lt C.sz 96 C.pl)) → Ev l E mX4_readWord (8) 0 0 (scrW 0 C) (fun r w' => r = some (.int (zI ((rdWord C.lt C.sz C.pl).1))) ∧ w' = scrW 0 ((C.lt, C.st, C.wd, C.f1, C.f2, C.f3, C.sz, ((rdWord C.lt C.sz C.pl).2).1, ((rdWord C.lt C.sz C.pl).2).2, C.sn) : ScrN)) 0 0 7 [(2, .int (nI (k))), (0, .ref 0), (1, .int (nI (C.pl)))] [] (scrW 0 ((C.lt, C.st, C.wd, C.f1, C.f2, C.f3, C.sz, p1, C.fa, C.sn) : ScrN)) := by
    intro j_
    induction j_ with
    | zero =>
      intro k hk7 p1 hinv7
      replace hk7 : k = 96 := hk7
      subst hk7
      refine ev_b bX4_readWord_7_10 (lv' := [(2, .int (nI (96))), (0, .ref 0), (1, .int (nI (C.pl)))]) (st' := [.int (nI (96)), .int (nI (96))]) (w2 := scrW 0 ((C.lt, C.st, C.wd, C.f1, C.f2, C.f3, C.sz, p1, C.fa, C.sn) : ScrN)) rfl ?_
      refine ev_icmp_ge_n (tgt := 39) (by decide) (by decide) dX4_readWord_10 (by decide) (fun h10 => ?_) (fun h10 => (by exfalso; omega))
      have hE : (wrdEnd C.lt C.sz 96 C.pl) = p1 := by first | (rw [← hinv7.2, show 96 - k = (95 - k) + 1 by omega, wrdEnd_s, if_neg h20]) | exact hinv7.2.symm
      refine ev_b bX4_readWord_39_45 (lv' := [(2, .int (nI (96))), (0, .ref 0), (1, .int (nI (C.pl)))]) (st' := [.int (nI (p1)), .int (nI (C.pl)), .ref 0]) (w2 := scrW 0 ((C.lt, C.st, C.wd, C.f1, C.f2, C.f3, C.sz, p1, C.fa, C.sn) : ScrN)) rfl ?_
      refine ev_callV (Yc := mX4_wordFrom) [0, 1, 2, 3, 4, 5, 6] dX4_readWord_45 tw_284 kX4_wordFrom (m_X4_wordFrom ((C.lt, C.st, C.wd, C.f1, C.f2, C.f3, C.sz, p1, C.fa, C.sn) : ScrN) C.pl p1 hC hpl hinv7.1) rfl (st := []) rfl rfl rfl (by decide) rfl (by decide) (Nat.le_of_ble_eq_true rfl) (Nat.le_refl _) (Nat.le_refl _) (fun r w' h => by obtain ⟨-, rfl⟩ := h; exact Nat.le_of_ble_eq_true rfl) ?_
      rintro _ _ ⟨rfl, rfl⟩
      refine ev_eq (lv' := [(2, .int (nI (96))), (0, .ref 0), (1, .int (nI (C.pl)))]) (st' := [.int (zI (wordF C.lt C.pl p1))]) (w' := scrW 0 ((C.lt, C.st, C.wd, C.f1, C.f2, C.f3, C.sz, p1, C.fa, C.sn) : ScrN)) rfl rfl rfl ?_
      have hwz := word_z (lt := C.lt) (p := C.pl) (e := p1)
      refine ev_b bX4_readWord_48_51 (lv' := [(2, .int (zI (wordF C.lt C.pl p1))), (0, .ref 0), (1, .int (nI (C.pl)))]) (st' := [.int (-1), .int (zI (wordF C.lt C.pl p1))]) (w2 := scrW 0 ((C.lt, C.st, C.wd, C.f1, C.f2, C.f3, C.sz, p1, C.fa, C.sn) : ScrN)) rfl ?_
      refine ev_top (y := zI (-1)) (by decide) ?_
      refine ev_icmp_ne_z (tgt := 59) (by constructor <;> omega) (by constructor <;> omega) dX4_readWord_51 (by decide) (fun h51 => ?_) (fun h51 => ?_)
      · skip
        have e9 : rdWord C.lt C.sz C.pl = (wordF C.lt C.pl p1, (p1, -9)) := by
          unfold rdWord
          rw [hE, if_neg h51]
        refine ev_b bX4_readWord_59_60 (lv' := [(2, .int (zI (wordF C.lt C.pl p1))), (0, .ref 0), (1, .int (nI (C.pl)))]) (st' := [.int (zI (wordF C.lt C.pl p1))]) (w2 := scrW 0 ((C.lt, C.st, C.wd, C.f1, C.f2, C.f3, C.sz, p1, C.fa, C.sn) : ScrN)) rfl ?_
        exact ev_iret dX4_readWord_60 rfl (Nat.le_of_ble_eq_true rfl) (Nat.le_refl _) (Nat.le_refl _) ⟨(congrArg (fun t => some (Value.int (zI t))) (show wordF C.lt C.pl p1 = (rdWord C.lt C.sz C.pl).1 from by rw [e9])), (by first | rw [e9, h9] | rw [e9])⟩
      · skip
        have e9 : rdWord C.lt C.sz C.pl = (wordF C.lt C.pl p1, (p1, ((C.pl : Nat) : Int))) := by
          unfold rdWord
          rw [hE, if_pos (by omega)]
        refine ev_b bX4_readWord_54_56 (lv' := [(2, .int (zI (wordF C.lt C.pl p1))), (0, .ref 0), (1, .int (nI (C.pl)))]) (st' := [.int (nI (C.pl)), .ref 0]) (w2 := scrW 0 ((C.lt, C.st, C.wd, C.f1, C.f2, C.f3, C.sz, p1, C.fa, C.sn) : ScrN)) rfl ?_
        refine ev_callV (Yc := mX4_noteFault) [0, 1, 2, 3, 4, 5, 6] dX4_readWord_56 tw_345 kX4_noteFault (m_X4_noteFault ((C.lt, C.st, C.wd, C.f1, C.f2, C.f3, C.sz, p1, C.fa, C.sn) : ScrN) C.pl h9) rfl (st := []) rfl rfl rfl (by decide) rfl (by decide) (Nat.le_of_ble_eq_true rfl) (Nat.le_refl _) (Nat.le_refl _) (fun r w' h => by obtain ⟨-, rfl⟩ := h; exact Nat.le_of_ble_eq_true rfl) ?_
        rintro _ _ ⟨rfl, rfl⟩
        refine ev_eq (lv' := [(2, .int (zI (wordF C.lt C.pl p1))), (0, .ref 0), (1, .int (nI (C.pl)))]) (st' := []) (w' := scrW 0 ((C.lt, C.st, C.wd, C.f1, C.f2, C.f3, C.sz, p1, ((C.pl : Nat) : Int), C.sn) : ScrN)) rfl rfl rfl ?_
        refine ev_b bX4_readWord_59_60 (lv' := [(2, .int (zI (wordF C.lt C.pl p1))), (0, .ref 0), (1, .int (nI (C.pl)))]) (st' := [.int (zI (wordF C.lt C.pl p1))]) (w2 := scrW 0 ((C.lt, C.st, C.wd, C.f1, C.f2, C.f3, C.sz, p1, ((C.pl : Nat) : Int), C.sn) : ScrN)) rfl ?_
        exact ev_iret dX4_readWord_60 rfl (Nat.le_of_ble_eq_true rfl) (Nat.le_refl _) (Nat.le_refl _) ⟨(congrArg (fun t => some (Value.int (zI t))) (show wordF C.lt C.pl p1 = (rdWord C.lt C.sz C.pl).1 from by rw [e9])), (by first | rw [e9, h9] | rw [e9])⟩
    | succ j_ ih7 =>
      intro k hk7 p1 hinv7
      have hlt7 : k < 96 := by omega
      refine ev_b bX4_readWord_7_10 (lv' := [(2, .int (nI (k))), (0, .ref 0), (1, .int (nI (C.pl)))]) (st' := [.int (nI (96)), .int (nI (k))]) (w2 := scrW 0 ((C.lt, C.st, C.wd, C.f1, C.f2, C.f3, C.sz, p1, C.fa, C.sn) : ScrN)) rfl ?_
      refine ev_icmp_ge_n (tgt := 39) (by omega) (by decide) dX4_readWord_10 (by decide) (fun h10 => (by exfalso; omega)) (fun h10 => ?_)
      refine ev_b bX4_readWord_13_14 (lv' := [(2, .int (nI (k))), (0, .ref 0), (1, .int (nI (C.pl)))]) (st' := [.ref 0]) (w2 := scrW 0 ((C.lt, C.st, C.wd, C.f1, C.f2, C.f3, C.sz, p1, C.fa, C.sn) : ScrN)) rfl ?_
      refine ev_callV (Yc := mX4_signHere) [0, 1, 2, 3, 4, 5, 6] dX4_readWord_14 tw_277 kX4_signHere (m_X4_signHere ((C.lt, C.st, C.wd, C.f1, C.f2, C.f3, C.sz, p1, C.fa, C.sn) : ScrN) hC ⟨hinv7.1, hq.2⟩) rfl (st := []) rfl rfl rfl (by decide) rfl (by decide) (Nat.le_of_ble_eq_true rfl) (Nat.le_refl _) (Nat.le_refl _) (fun r w' h => by obtain ⟨-, rfl⟩ := h; exact Nat.le_of_ble_eq_true rfl) ?_
      rintro _ _ ⟨rfl, rfl⟩
      refine ev_eq (lv' := [(2, .int (nI (k))), (0, .ref 0), (1, .int (nI (C.pl)))]) (st' := [.int (zI (sgz C.lt C.sz p1))]) (w' := scrW 0 ((C.lt, C.st, C.wd, C.f1, C.f2, C.f3, C.sz, p1, C.fa, C.sn) : ScrN)) rfl rfl rfl ?_
      have hsb := sgz_bnd (lt := C.lt) (n := C.sz) (p := p1) hC.2
      refine ev_callS (Yc := mX4_isSmall) [] dX4_readWord_17 tw_281 kX4_isSmall (m_X4_isSmall (sgz C.lt C.sz p1) (by constructor <;> omega)) rfl (st := []) rfl (by decide) rfl (by decide) (Nat.le_of_ble_eq_true rfl) (Nat.le_refl _) (Nat.le_refl _) (fun r w' h => by obtain ⟨-, rfl⟩ := h; exact Nat.le_of_ble_eq_true rfl) ?_
      rintro _ _ ⟨rfl, rfl⟩
      refine ev_eq (lv' := [(2, .int (nI (k))), (0, .ref 0), (1, .int (nI (C.pl)))]) (st' := [.int (nI (b01 (isSm (sgz C.lt C.sz p1))))]) (w' := scrW 0 ((C.lt, C.st, C.wd, C.f1, C.f2, C.f3, C.sz, p1, C.fa, C.sn) : ScrN)) rfl rfl rfl ?_
      refine ev_ifeq_b (tgt := 39) dX4_readWord_20 (by decide) (fun h20 => ?_) (fun h20 => ?_)
      · skip
        have hE : (wrdEnd C.lt C.sz 96 C.pl) = p1 := by first | (rw [← hinv7.2, show 96 - k = (95 - k) + 1 by omega, wrdEnd_s, if_neg h20]) | exact hinv7.2.symm
        refine ev_b bX4_readWord_39_45 (lv' := [(2, .int (nI (k))), (0, .ref 0), (1, .int (nI (C.pl)))]) (st' := [.int (nI (p1)), .int (nI (C.pl)), .ref 0]) (w2 := scrW 0 ((C.lt, C.st, C.wd, C.f1, C.f2, C.f3, C.sz, p1, C.fa, C.sn) : ScrN)) rfl ?_
        refine ev_callV (Yc := mX4_wordFrom) [0, 1, 2, 3, 4, 5, 6] dX4_readWord_45 tw_284 kX4_wordFrom (m_X4_wordFrom ((C.lt, C.st, C.wd, C.f1, C.f2, C.f3, C.sz, p1, C.fa, C.sn) : ScrN) C.pl p1 hC hpl hinv7.1) rfl (st := []) rfl rfl rfl (by decide) rfl (by decide) (Nat.le_of_ble_eq_true rfl) (Nat.le_refl _) (Nat.le_refl _) (fun r w' h => by obtain ⟨-, rfl⟩ := h; exact Nat.le_of_ble_eq_true rfl) ?_
        rintro _ _ ⟨rfl, rfl⟩
        refine ev_eq (lv' := [(2, .int (nI (k))), (0, .ref 0), (1, .int (nI (C.pl)))]) (st' := [.int (zI (wordF C.lt C.pl p1))]) (w' := scrW 0 ((C.lt, C.st, C.wd, C.f1, C.f2, C.f3, C.sz, p1, C.fa, C.sn) : ScrN)) rfl rfl rfl ?_
        have hwz := word_z (lt := C.lt) (p := C.pl) (e := p1)
        refine ev_b bX4_readWord_48_51 (lv' := [(2, .int (zI (wordF C.lt C.pl p1))), (0, .ref 0), (1, .int (nI (C.pl)))]) (st' := [.int (-1), .int (zI (wordF C.lt C.pl p1))]) (w2 := scrW 0 ((C.lt, C.st, C.wd, C.f1, C.f2, C.f3, C.sz, p1, C.fa, C.sn) : ScrN)) rfl ?_
        refine ev_top (y := zI (-1)) (by decide) ?_
        refine ev_icmp_ne_z (tgt := 59) (by constructor <;> omega) (by constructor <;> omega) dX4_readWord_51 (by decide) (fun h51 => ?_) (fun h51 => ?_)
        · skip
          have e9 : rdWord C.lt C.sz C.pl = (wordF C.lt C.pl p1, (p1, -9)) := by
            unfold rdWord
            rw [hE, if_neg h51]
          refine ev_b bX4_readWord_59_60 (lv' := [(2, .int (zI (wordF C.lt C.pl p1))), (0, .ref 0), (1, .int (nI (C.pl)))]) (st' := [.int (zI (wordF C.lt C.pl p1))]) (w2 := scrW 0 ((C.lt, C.st, C.wd, C.f1, C.f2, C.f3, C.sz, p1, C.fa, C.sn) : ScrN)) rfl ?_
          exact ev_iret dX4_readWord_60 rfl (Nat.le_of_ble_eq_true rfl) (Nat.le_refl _) (Nat.le_refl _) ⟨(congrArg (fun t => some (Value.int (zI t))) (show wordF C.lt C.pl p1 = (rdWord C.lt C.sz C.pl).1 from by rw [e9])), (by first | rw [e9, h9] | rw [e9])⟩
        · skip
          have e9 : rdWord C.lt C.sz C.pl = (wordF C.lt C.pl p1, (p1, ((C.pl : Nat) : Int))) := by
            unfold rdWord
            rw [hE, if_pos (by omega)]
          refine ev_b bX4_readWord_54_56 (lv' := [(2, .int (zI (wordF C.lt C.pl p1))), (0, .ref 0), (1, .int (nI (C.pl)))]) (st' := [.int (nI (C.pl)), .ref 0]) (w2 := scrW 0 ((C.lt, C.st, C.wd, C.f1, C.f2, C.f3, C.sz, p1, C.fa, C.sn) : ScrN)) rfl ?_
          refine ev_callV (Yc := mX4_noteFault) [0, 1, 2, 3, 4, 5, 6] dX4_readWord_56 tw_345 kX4_noteFault (m_X4_noteFault ((C.lt, C.st, C.wd, C.f1, C.f2, C.f3, C.sz, p1, C.fa, C.sn) : ScrN) C.pl h9) rfl (st := []) rfl rfl rfl (by decide) rfl (by decide) (Nat.le_of_ble_eq_true rfl) (Nat.le_refl _) (Nat.le_refl _) (fun r w' h => by obtain ⟨-, rfl⟩ := h; exact Nat.le_of_ble_eq_true rfl) ?_
          rintro _ _ ⟨rfl, rfl⟩
          refine ev_eq (lv' := [(2, .int (zI (wordF C.lt C.pl p1))), (0, .ref 0), (1, .int (nI (C.pl)))]) (st' := []) (w' := scrW 0 ((C.lt, C.st, C.wd, C.f1, C.f2, C.f3, C.sz, p1, ((C.pl : Nat) : Int), C.sn) : ScrN)) rfl rfl rfl ?_
          refine ev_b bX4_readWord_59_60 (lv' := [(2, .int (zI (wordF C.lt C.pl p1))), (0, .ref 0), (1, .int (nI (C.pl)))]) (st' := [.int (zI (wordF C.lt C.pl p1))]) (w2 := scrW 0 ((C.lt, C.st, C.wd, C.f1, C.f2, C.f3, C.sz, p1, ((C.pl : Nat) : Int), C.sn) : ScrN)) rfl ?_
          exact ev_iret dX4_readWord_60 rfl (Nat.le_of_ble_eq_true rfl) (Nat.le_refl _) (Nat.le_refl _) ⟨(congrArg (fun t => some (Value.int (zI t))) (show wordF C.lt C.pl p1 = (rdWord C.lt C.sz C.pl).1 from by rw [e9])), (by first | rw [e9, h9] | rw [e9])⟩
      · skip
        have hsg := sgz_lt (lt := C.lt) (n := C.sz) (p := p1) (by omega)
        have hnext : p1 + 1 ≤ C.sz ∧ wrdEnd C.lt C.sz (96 - (k + 1)) (p1 + 1) = (wrdEnd C.lt C.sz 96 C.pl) := by
          refine ⟨hsg.1, ?_⟩
          rw [← hinv7.2, show 96 - k = (96 - (k + 1)) + 1 by omega, wrdEnd_s, if_pos h20]
        refine ev_b bX4_readWord_23_29 (lv' := [(2, .int (nI (k))), (0, .ref 0), (1, .int (nI (C.pl)))]) (st' := [.int (nI (1)), .int (nI (p1)), .ref 0]) (w2 := scrW 0 ((C.lt, C.st, C.wd, C.f1, C.f2, C.f3, C.sz, p1, C.fa, C.sn) : ScrN)) rfl ?_
        refine ev_iadd_n dX4_readWord_29 ?_
        refine ev_b bX4_readWord_30_33 (lv' := [(2, .int (nI (k))), (0, .ref 0), (1, .int (nI (C.pl)))]) (st' := []) (w2 := scrW 0 ((C.lt, C.st, C.wd, C.f1, C.f2, C.f3, C.sz, p1 + 1, C.fa, C.sn) : ScrN)) rfl ?_
        refine ev_iinc_n (x := k) (v := 1) dX4_readWord_33 rfl (by decide) ?_
        refine ev_eq (lv' := [(2, .int (nI (k + 1))), (0, .ref 0), (1, .int (nI (C.pl)))]) rfl rfl rfl ?_
        refine ev_b bX4_readWord_36_7 (lv' := [(2, .int (nI (k + 1))), (0, .ref 0), (1, .int (nI (C.pl)))]) (st' := []) (w2 := scrW 0 ((C.lt, C.st, C.wd, C.f1, C.f2, C.f3, C.sz, p1 + 1, C.fa, C.sn) : ScrN)) rfl ?_
        rw [show nI (k + 1) = nI ((k + 1)) from congrArg nI (by omega)]
        exact ih7 (k + 1) (by omega) _ hnext
  refine ev_pick (lv' := [(2, .int (nI (0))), (0, .ref 0), (1, .int (nI (C.pl)))]) rfl ?_
  exact L7 96 0 (by omega) _ ⟨hpl, rfl⟩
theorem bX4_readSet_0_2 {l : Launch} {E : XE} : Snd l E mX4_readSet 0 2 (xs [x_push (.int (nI 1)), x_aload 0]) := Snd.cons (snd_iconst (v := nI 1) dX4_readSet_0 (by decide)) (Snd.cons (snd_aload_n (i := 0) dX4_readSet_1 rfl) Snd.nil)
theorem bX4_readSet_6_8 {l : Launch} {E : XE} : Snd l E mX4_readSet 6 8 (xs [x_push (.int (nI 63))]) := Snd.cons (snd_bipush (v := nI 63) dX4_readSet_6 (by decide)) Snd.nil
theorem bX4_readSet_9_11 {l : Launch} {E : XE} : Snd l E mX4_readSet 9 11 (xs [x_istore 1, x_iload 1]) := Snd.cons (snd_istore_n (i := 1) dX4_readSet_9 rfl (by decide)) (Snd.cons (snd_iload_n (i := 1) dX4_readSet_10 rfl) Snd.nil)
theorem bX4_readSet_18_22 {l : Launch} {E : XE} : Snd l E mX4_readSet 18 22 (xs [x_push (.int (nI 0)), x_istore 2, x_push (.int (nI 0)), x_istore 3]) := Snd.cons (snd_iconst (v := nI 0) dX4_readSet_18 (by decide)) (Snd.cons (snd_istore_n (i := 2) dX4_readSet_19 rfl (by decide)) (Snd.cons (snd_iconst (v := nI 0) dX4_readSet_20 (by decide)) (Snd.cons (snd_istore_n (i := 3) dX4_readSet_21 rfl (by decide)) Snd.nil)))
theorem bX4_readSet_22_25 {l : Launch} {E : XE} : Snd l E mX4_readSet 22 25 (xs [x_iload 3, x_push (.int (nI 96))]) := Snd.cons (snd_iload_n (i := 3) dX4_readSet_22 rfl) (Snd.cons (snd_bipush (v := nI 96) dX4_readSet_23 (by decide)) Snd.nil)
theorem bX4_readSet_88_89 {l : Launch} {E : XE} : Snd l E mX4_readSet 88 89 (xs [x_iload 2]) := Snd.cons (snd_iload_n (i := 2) dX4_readSet_88 rfl) Snd.nil
theorem bX4_readSet_96_97 {l : Launch} {E : XE} : Snd l E mX4_readSet 96 97 (xs [x_push (.int (-1))]) := Snd.cons (snd_iconst (v := -1) dX4_readSet_96 (by decide)) Snd.nil
theorem bX4_readSet_92_97 {l : Launch} {E : XE} : Snd l E mX4_readSet 92 97 (xs [x_iload 1, x_id]) := Snd.cons (snd_iload_n (i := 1) dX4_readSet_92 rfl) (Snd.cons (snd_goto (tgt := 97) dX4_readSet_93 (by decide)) Snd.nil)
theorem bX4_readSet_28_34 {l : Launch} {E : XE} : Snd l E mX4_readSet 28 34 (xs [x_aload 0, x_get 5 8, x_push (.int (-9))]) := Snd.cons (snd_aload_n (i := 0) dX4_readSet_28 rfl) (Snd.cons (snd_get (ci := 5) (k := 8) dX4_readSet_29 rfl inX4 (by decide) tw_169) (Snd.cons (snd_bipush (v := -9) dX4_readSet_32 (by decide)) Snd.nil))
theorem bX4_readSet_37_38 {l : Launch} {E : XE} : Snd l E mX4_readSet 37 38 (xs [x_aload 0]) := Snd.cons (snd_aload_n (i := 0) dX4_readSet_37 rfl) Snd.nil
theorem bX4_readSet_47_49 {l : Launch} {E : XE} : Snd l E mX4_readSet 47 49 (xs [x_push (.int (nI 1)), x_aload 0]) := Snd.cons (snd_iconst (v := nI 1) dX4_readSet_47 (by decide)) (Snd.cons (snd_aload_n (i := 0) dX4_readSet_48 rfl) Snd.nil)
theorem bX4_readSet_53_55 {l : Launch} {E : XE} : Snd l E mX4_readSet 53 55 (xs [x_push (.int (nI 63))]) := Snd.cons (snd_bipush (v := nI 63) dX4_readSet_53 (by decide)) Snd.nil
theorem bX4_readSet_56_59 {l : Launch} {E : XE} : Snd l E mX4_readSet 56 59 (xs [x_iload 1, x_push (.int (-1)), x_i2 (fun x y => x ^^^ y)]) := Snd.cons (snd_iload_n (i := 1) dX4_readSet_56 rfl) (Snd.cons (snd_iconst (v := -1) dX4_readSet_57 (by decide)) (Snd.cons (snd_ixor dX4_readSet_58) Snd.nil))
theorem bX4_readSet_60_63 {l : Launch} {E : XE} : Snd l E mX4_readSet 60 63 (xs [x_istore 4, x_iload 2]) := Snd.cons (snd_istore dX4_readSet_60 (by decide)) (Snd.cons (snd_iload_n (i := 2) dX4_readSet_62 rfl) Snd.nil)
theorem bX4_readSet_75_76 {l : Launch} {E : XE} : Snd l E mX4_readSet 75 76 (xs [x_push (.int (nI 0))]) := Snd.cons (snd_iconst (v := nI 0) dX4_readSet_75 (by decide)) Snd.nil
theorem bX4_readSet_76_80 {l : Launch} {E : XE} : Snd l E mX4_readSet 76 80 (xs [x_istore 2, x_iload 1, x_iload 4]) := Snd.cons (snd_istore_n (i := 2) dX4_readSet_76 rfl (by decide)) (Snd.cons (snd_iload_n (i := 1) dX4_readSet_77 rfl) (Snd.cons (snd_iload dX4_readSet_78) Snd.nil))
theorem bX4_readSet_81_82 {l : Launch} {E : XE} : Snd l E mX4_readSet 81 82 (xs [x_istore 1]) := Snd.cons (snd_istore_n (i := 1) dX4_readSet_81 rfl (by decide)) Snd.nil
theorem bX4_readSet_85_22 {l : Launch} {E : XE} : Snd l E mX4_readSet 85 22 (xs [x_id]) := Snd.cons (snd_goto (tgt := 22) dX4_readSet_85 (by decide)) Snd.nil
theorem bX4_readSet_66_68 {l : Launch} {E : XE} : Snd l E mX4_readSet 66 68 (xs [x_iload 4]) := Snd.cons (snd_iload dX4_readSet_66) Snd.nil
theorem bX4_readSet_71_76 {l : Launch} {E : XE} : Snd l E mX4_readSet 71 76 (xs [x_push (.int (nI 1)), x_id]) := Snd.cons (snd_iconst (v := nI 1) dX4_readSet_71 (by decide)) (Snd.cons (snd_goto (tgt := 76) dX4_readSet_72 (by decide)) Snd.nil)
theorem bX4_readSet_14_22 {l : Launch} {E : XE} : Snd l E mX4_readSet 14 22 (xs [x_push (.int (nI 1)), x_id, x_istore 2, x_push (.int (nI 0)), x_istore 3]) := Snd.cons (snd_iconst (v := nI 1) dX4_readSet_14 (by decide)) (Snd.cons (snd_goto (tgt := 19) dX4_readSet_15 (by decide)) (Snd.cons (snd_istore_n (i := 2) dX4_readSet_19 rfl (by decide)) (Snd.cons (snd_iconst (v := nI 0) dX4_readSet_20 (by decide)) (Snd.cons (snd_istore_n (i := 3) dX4_readSet_21 rfl (by decide)) Snd.nil))))
set_option maxHeartbeats 4000000 in
set_option maxRecDepth 100000 in
theorem m_X4_readSet {l : Launch} {E : XE} (C : ScrN) (hC : ScrOK C) (hq : PFok C.sz (C.pl, C.fa)) : MetE l E mX4_readSet (2) 0 0 [.ref 0] (scrW 0 C) (fun r w' => r = some (.int (zI ((rdSet C.lt C.sz (C.pl, C.fa)).1))) ∧ w' = scrW 0 ((C.lt, C.st, C.wd, C.f1, C.f2, C.f3, C.sz, ((rdSet C.lt C.sz (C.pl, C.fa)).2).1, ((rdSet C.lt C.sz (C.pl, C.fa)).2).2, C.sn) : ScrN)) := by
  refine MetE.of (by decide +kernel) (Nat.le_of_ble_eq_true rfl) ?_
  have hsz := hC.1
  have hpl : C.pl ≤ C.sz := hq.1
  have hfa : C.fa = -9 ∨ (0 ≤ C.fa ∧ C.fa ≤ ((C.sz : Nat) : Int)) := hq.2
  have hiok : PFok C.sz (rdItem C.lt C.sz (C.pl, C.fa)).2 := item_ok hq
  have hix := item_x (lt := C.lt) (n := C.sz) (q := (C.pl, C.fa))
  have hs0 := rdSet0_b (i := rdItem C.lt C.sz (C.pl, C.fa))
  have hF0 : -9 ≤ (rdItem C.lt C.sz (C.pl, C.fa)).2.2 ∧ (rdItem C.lt C.sz (C.pl, C.fa)).2.2 ≤ 96 := by
    have := hiok.2
    omega
  refine ev_eq (lv' := [(0, .ref 0)]) (st' := []) (w' := scrW 0 C) rfl rfl rfl ?_
  refine ev_b bX4_readSet_0_2 (lv' := [(0, .ref 0)]) (st' := [.ref 0, .int (nI (1))]) (w2 := scrW 0 C) rfl ?_
  refine ev_callV (Yc := mX4_readItem) [0, 1, 2, 3, 4, 5, 6] dX4_readSet_2 tw_353 kX4_readItem (m_X4_readItem C hC hq) rfl (st := [.int (nI (1))]) rfl rfl rfl (by decide) rfl (by decide) (Nat.le_of_ble_eq_true rfl) (Nat.le_refl _) (Nat.le_refl _) (fun r w' h => by obtain ⟨-, rfl⟩ := h; exact Nat.le_of_ble_eq_true rfl) ?_
  rintro _ _ ⟨rfl, rfl⟩
  refine ev_eq (lv' := [(0, .ref 0)]) (st' := [.int (nI ((rdItem C.lt C.sz (C.pl, C.fa)).1)), .int (nI (1))]) (w' := scrW 0 ((C.lt, C.st, C.wd, C.f1, C.f2, C.f3, C.sz, ((rdItem C.lt C.sz (C.pl, C.fa)).2).1, ((rdItem C.lt C.sz (C.pl, C.fa)).2).2, C.sn) : ScrN)) rfl rfl rfl ?_
  refine ev_ishl_n (by omega) dX4_readSet_5 ?_
  refine ev_b bX4_readSet_6_8 (lv' := [(0, .ref 0)]) (st' := [.int (nI (63)), .int (nI (1 <<< ((rdItem C.lt C.sz (C.pl, C.fa)).1)))]) (w2 := scrW 0 ((C.lt, C.st, C.wd, C.f1, C.f2, C.f3, C.sz, ((rdItem C.lt C.sz (C.pl, C.fa)).2).1, ((rdItem C.lt C.sz (C.pl, C.fa)).2).2, C.sn) : ScrN)) rfl ?_
  refine ev_iand_n dX4_readSet_8 ?_
  refine ev_top (y := (nI ((rdSet0 (rdItem C.lt C.sz (C.pl, C.fa))).1))) (congrArg nI (show (1 <<< ((rdItem C.lt C.sz (C.pl, C.fa)).1)) &&& 63 = (rdSet0 (rdItem C.lt C.sz (C.pl, C.fa))).1 from by rfl)) ?_
  refine ev_b bX4_readSet_9_11 (lv' := [(1, .int (nI ((rdSet0 (rdItem C.lt C.sz (C.pl, C.fa))).1))), (0, .ref 0)]) (st' := [.int (nI ((rdSet0 (rdItem C.lt C.sz (C.pl, C.fa))).1))]) (w2 := scrW 0 ((C.lt, C.st, C.wd, C.f1, C.f2, C.f3, C.sz, ((rdItem C.lt C.sz (C.pl, C.fa)).2).1, ((rdItem C.lt C.sz (C.pl, C.fa)).2).2, C.sn) : ScrN)) rfl ?_
  refine ev_if_eq_n (tgt := 18) (by omega) dX4_readSet_11 (by decide) (fun h11 => ?_) (fun h11 => ?_)
  · skip
    have ho0 : (rdSet0 (rdItem C.lt C.sz (C.pl, C.fa))).2 = 0 := if_pos h11
    refine ev_b bX4_readSet_18_22 (lv' := [(3, .int (nI (0))), (2, .int (nI (0))), (1, .int (nI ((rdSet0 (rdItem C.lt C.sz (C.pl, C.fa))).1))), (0, .ref 0)]) (st' := []) (w2 := scrW 0 ((C.lt, C.st, C.wd, C.f1, C.f2, C.f3, C.sz, ((rdItem C.lt C.sz (C.pl, C.fa)).2).1, ((rdItem C.lt C.sz (C.pl, C.fa)).2).2, C.sn) : ScrN)) rfl ?_
    have L22 : ∀ (j_ k : Nat), k + j_ = 96 → ∀ (s1 o1 p1 : Nat), (p1 ≤ C.sz ∧ s1 < 64 ∧ o1 ≤ 1 ∧ ((rdItem C.lt C.sz (C.pl, C.fa)).2.2 = -9 → setGo C.lt C.sz (96 - k) s1 o1 p1 = setGo C.lt C.sz 96 (rdSet0 (rdItem C.lt C.sz (C.pl, C.fa))).1 (rdSet0 (rdItem C.lt C.sz (C.pl, C.fa))).2 (rdItem C.lt C.sz (C.pl, C.fa)).2.1) ∧ ((rdItem C.lt C.sz (C.pl, C.fa)).2.2 ≠ -9 → s1 = (rdSet0 (rdItem C.lt C.sz (C.pl, C.fa))).1 ∧ o1 = (rdSet0 (rdItem C.lt C.sz (C.pl, C.fa))).2 ∧ p1 = (rdItem C.lt C.sz (C.pl, C.fa)).2.1)) → Ev l E mX4_readSet (2) 0 0 (scrW 0 C) (fun r w' => r = some (.int (zI ((rdSet C.lt C.sz (C.pl, C.fa)).1))) ∧ w' = scrW 0 ((C.lt, C.st, C.wd, C.f1, C.f2, C.f3, C.sz, ((rdSet C.lt C.sz (C.pl, C.fa)).2).1, ((rdSet C.lt C.sz (C.pl, C.fa)).2).2, C.sn) : ScrN)) 0 0 22 [(3, .int (nI (k))), (1, .int (nI (s1))), (2, .int (nI (o1))), (0, .ref 0)] [] (scrW 0 ((C.lt, C.st, C.wd, C.f1, C.f2, C.f3, C.sz, p1, (rdItem C.lt C.sz (C.pl, C.fa)).2.2, C.sn) : ScrN)) := by
      intro j_
      induction j_ with
      | zero =>
        intro k hk22 s1 o1 p1 hinv22
        replace hk22 : k = 96 := hk22
        subst hk22
        obtain ⟨hp1, hs1, ho1, hg1, hg2⟩ := hinv22
        refine ev_b bX4_readSet_22_25 (lv' := [(3, .int (nI (96))), (1, .int (nI (s1))), (2, .int (nI (o1))), (0, .ref 0)]) (st' := [.int (nI (96)), .int (nI (96))]) (w2 := scrW 0 ((C.lt, C.st, C.wd, C.f1, C.f2, C.f3, C.sz, p1, (rdItem C.lt C.sz (C.pl, C.fa)).2.2, C.sn) : ScrN)) rfl ?_
        refine ev_icmp_ge_n (tgt := 88) (by decide) (by decide) dX4_readSet_25 (by decide) (fun h25 => ?_) (fun h25 => (by exfalso; omega))
        have hE : rdSet C.lt C.sz (C.pl, C.fa) = (setZ (s1, o1, 0), (p1, (rdItem C.lt C.sz (C.pl, C.fa)).2.2)) := set_end (fun hf => (hg1 hf).symm) hg2
        refine ev_b bX4_readSet_88_89 (lv' := [(3, .int (nI (96))), (1, .int (nI (s1))), (2, .int (nI (o1))), (0, .ref 0)]) (st' := [.int (nI (o1))]) (w2 := scrW 0 ((C.lt, C.st, C.wd, C.f1, C.f2, C.f3, C.sz, p1, (rdItem C.lt C.sz (C.pl, C.fa)).2.2, C.sn) : ScrN)) rfl ?_
        refine ev_if_eq_n (tgt := 96) (by omega) dX4_readSet_89 (by decide) (fun h89 => ?_) (fun h89 => ?_)
        · skip
          refine ev_b bX4_readSet_96_97 (lv' := [(3, .int (nI (96))), (1, .int (nI (s1))), (2, .int (nI (o1))), (0, .ref 0)]) (st' := [.int (-1)]) (w2 := scrW 0 ((C.lt, C.st, C.wd, C.f1, C.f2, C.f3, C.sz, p1, (rdItem C.lt C.sz (C.pl, C.fa)).2.2, C.sn) : ScrN)) rfl ?_
          exact ev_iret dX4_readSet_97 rfl (Nat.le_of_ble_eq_true rfl) (Nat.le_refl _) (Nat.le_refl _) ⟨(by rw [hE]; first | exact (if_pos (show o1 = 1 by omega)).symm | (show some (Value.int (-1)) = some (Value.int (zI (setZ (s1, o1, 0)))); rw [show setZ (s1, o1, 0) = -1 from if_neg (show ¬ o1 = 1 by omega)]; exact congrArg (fun v => some (Value.int v)) (show (-1 : Int32) = zI (-1) from by decide))), (by rw [hE])⟩
        · skip
          refine ev_b bX4_readSet_92_97 (lv' := [(3, .int (nI (96))), (1, .int (nI (s1))), (2, .int (nI (o1))), (0, .ref 0)]) (st' := [.int (nI (s1))]) (w2 := scrW 0 ((C.lt, C.st, C.wd, C.f1, C.f2, C.f3, C.sz, p1, (rdItem C.lt C.sz (C.pl, C.fa)).2.2, C.sn) : ScrN)) rfl ?_
          exact ev_iret dX4_readSet_97 rfl (Nat.le_of_ble_eq_true rfl) (Nat.le_refl _) (Nat.le_refl _) ⟨(congrArg (fun t => some (Value.int t)) (show nI (s1) = zI ((rdSet C.lt C.sz (C.pl, C.fa)).1) from by rw [← zI_nat]; exact congrArg zI (by rw [hE]; first | exact (if_pos (show o1 = 1 by omega)).symm | (show some (Value.int (-1)) = some (Value.int (zI (setZ (s1, o1, 0)))); rw [show setZ (s1, o1, 0) = -1 from if_neg (show ¬ o1 = 1 by omega)]; exact congrArg (fun v => some (Value.int v)) (show (-1 : Int32) = zI (-1) from by decide))))), (by rw [hE])⟩
      | succ j_ ih22 =>
        intro k hk22 s1 o1 p1 hinv22
        have hlt22 : k < 96 := by omega
        obtain ⟨hp1, hs1, ho1, hg1, hg2⟩ := hinv22
        refine ev_b bX4_readSet_22_25 (lv' := [(3, .int (nI (k))), (1, .int (nI (s1))), (2, .int (nI (o1))), (0, .ref 0)]) (st' := [.int (nI (96)), .int (nI (k))]) (w2 := scrW 0 ((C.lt, C.st, C.wd, C.f1, C.f2, C.f3, C.sz, p1, (rdItem C.lt C.sz (C.pl, C.fa)).2.2, C.sn) : ScrN)) rfl ?_
        refine ev_icmp_ge_n (tgt := 88) (by omega) (by decide) dX4_readSet_25 (by decide) (fun h25 => (by exfalso; omega)) (fun h25 => ?_)
        refine ev_b bX4_readSet_28_34 (lv' := [(3, .int (nI (k))), (1, .int (nI (s1))), (2, .int (nI (o1))), (0, .ref 0)]) (st' := [.int (-9), .int (zI ((rdItem C.lt C.sz (C.pl, C.fa)).2.2))]) (w2 := scrW 0 ((C.lt, C.st, C.wd, C.f1, C.f2, C.f3, C.sz, p1, (rdItem C.lt C.sz (C.pl, C.fa)).2.2, C.sn) : ScrN)) rfl ?_
        refine ev_top (y := zI (-9)) (by decide) ?_
        refine ev_icmp_ne_z (tgt := 88) (by constructor <;> omega) (by constructor <;> omega) dX4_readSet_34 (by decide) (fun h34 => ?_) (fun h34 => ?_)
        · skip
          have hE : rdSet C.lt C.sz (C.pl, C.fa) = (setZ (s1, o1, 0), (p1, (rdItem C.lt C.sz (C.pl, C.fa)).2.2)) := set_end (fun hf => by first | (rw [← hg1 hf, show 96 - k = (95 - k) + 1 by omega, setGo_s, if_neg h44]) | exact absurd hf h34) hg2
          refine ev_b bX4_readSet_88_89 (lv' := [(3, .int (nI (k))), (1, .int (nI (s1))), (2, .int (nI (o1))), (0, .ref 0)]) (st' := [.int (nI (o1))]) (w2 := scrW 0 ((C.lt, C.st, C.wd, C.f1, C.f2, C.f3, C.sz, p1, (rdItem C.lt C.sz (C.pl, C.fa)).2.2, C.sn) : ScrN)) rfl ?_
          refine ev_if_eq_n (tgt := 96) (by omega) dX4_readSet_89 (by decide) (fun h89 => ?_) (fun h89 => ?_)
          · skip
            refine ev_b bX4_readSet_96_97 (lv' := [(3, .int (nI (k))), (1, .int (nI (s1))), (2, .int (nI (o1))), (0, .ref 0)]) (st' := [.int (-1)]) (w2 := scrW 0 ((C.lt, C.st, C.wd, C.f1, C.f2, C.f3, C.sz, p1, (rdItem C.lt C.sz (C.pl, C.fa)).2.2, C.sn) : ScrN)) rfl ?_
            exact ev_iret dX4_readSet_97 rfl (Nat.le_of_ble_eq_true rfl) (Nat.le_refl _) (Nat.le_refl _) ⟨(by rw [hE]; first | exact (if_pos (show o1 = 1 by omega)).symm | (show some (Value.int (-1)) = some (Value.int (zI (setZ (s1, o1, 0)))); rw [show setZ (s1, o1, 0) = -1 from if_neg (show ¬ o1 = 1 by omega)]; exact congrArg (fun v => some (Value.int v)) (show (-1 : Int32) = zI (-1) from by decide))), (by rw [hE])⟩
          · skip
            refine ev_b bX4_readSet_92_97 (lv' := [(3, .int (nI (k))), (1, .int (nI (s1))), (2, .int (nI (o1))), (0, .ref 0)]) (st' := [.int (nI (s1))]) (w2 := scrW 0 ((C.lt, C.st, C.wd, C.f1, C.f2, C.f3, C.sz, p1, (rdItem C.lt C.sz (C.pl, C.fa)).2.2, C.sn) : ScrN)) rfl ?_
            exact ev_iret dX4_readSet_97 rfl (Nat.le_of_ble_eq_true rfl) (Nat.le_refl _) (Nat.le_refl _) ⟨(congrArg (fun t => some (Value.int t)) (show nI (s1) = zI ((rdSet C.lt C.sz (C.pl, C.fa)).1) from by rw [← zI_nat]; exact congrArg zI (by rw [hE]; first | exact (if_pos (show o1 = 1 by omega)).symm | (show some (Value.int (-1)) = some (Value.int (zI (setZ (s1, o1, 0)))); rw [show setZ (s1, o1, 0) = -1 from if_neg (show ¬ o1 = 1 by omega)]; exact congrArg (fun v => some (Value.int v)) (show (-1 : Int32) = zI (-1) from by decide))))), (by rw [hE])⟩
        · skip
          refine ev_b bX4_readSet_37_38 (lv' := [(3, .int (nI (k))), (1, .int (nI (s1))), (2, .int (nI (o1))), (0, .ref 0)]) (st' := [.ref 0]) (w2 := scrW 0 ((C.lt, C.st, C.wd, C.f1, C.f2, C.f3, C.sz, p1, (rdItem C.lt C.sz (C.pl, C.fa)).2.2, C.sn) : ScrN)) rfl ?_
          refine ev_callV (Yc := mX4_signHere) [0, 1, 2, 3, 4, 5, 6] dX4_readSet_38 tw_277 kX4_signHere (m_X4_signHere ((C.lt, C.st, C.wd, C.f1, C.f2, C.f3, C.sz, p1, (rdItem C.lt C.sz (C.pl, C.fa)).2.2, C.sn) : ScrN) hC ⟨hp1, hiok.2⟩) rfl (st := []) rfl rfl rfl (by decide) rfl (by decide) (Nat.le_of_ble_eq_true rfl) (Nat.le_refl _) (Nat.le_refl _) (fun r w' h => by obtain ⟨-, rfl⟩ := h; exact Nat.le_of_ble_eq_true rfl) ?_
          rintro _ _ ⟨rfl, rfl⟩
          refine ev_eq (lv' := [(3, .int (nI (k))), (1, .int (nI (s1))), (2, .int (nI (o1))), (0, .ref 0)]) (st' := [.int (zI (sgz C.lt C.sz p1))]) (w' := scrW 0 ((C.lt, C.st, C.wd, C.f1, C.f2, C.f3, C.sz, p1, (rdItem C.lt C.sz (C.pl, C.fa)).2.2, C.sn) : ScrN)) rfl rfl rfl ?_
          have hsb := sgz_bnd (lt := C.lt) (n := C.sz) (p := p1) hC.2
          refine ev_callS (Yc := mX4_isSmall) [] dX4_readSet_41 tw_281 kX4_isSmall (m_X4_isSmall (sgz C.lt C.sz p1) (by constructor <;> omega)) rfl (st := []) rfl (by decide) rfl (by decide) (Nat.le_of_ble_eq_true rfl) (Nat.le_refl _) (Nat.le_refl _) (fun r w' h => by obtain ⟨-, rfl⟩ := h; exact Nat.le_of_ble_eq_true rfl) ?_
          rintro _ _ ⟨rfl, rfl⟩
          refine ev_eq (lv' := [(3, .int (nI (k))), (1, .int (nI (s1))), (2, .int (nI (o1))), (0, .ref 0)]) (st' := [.int (nI (b01 (isSm (sgz C.lt C.sz p1))))]) (w' := scrW 0 ((C.lt, C.st, C.wd, C.f1, C.f2, C.f3, C.sz, p1, (rdItem C.lt C.sz (C.pl, C.fa)).2.2, C.sn) : ScrN)) rfl rfl rfl ?_
          refine ev_ifeq_b (tgt := 88) dX4_readSet_44 (by decide) (fun h44 => ?_) (fun h44 => ?_)
          · skip
            have hE : rdSet C.lt C.sz (C.pl, C.fa) = (setZ (s1, o1, 0), (p1, (rdItem C.lt C.sz (C.pl, C.fa)).2.2)) := set_end (fun hf => by first | (rw [← hg1 hf, show 96 - k = (95 - k) + 1 by omega, setGo_s, if_neg h44]) | exact absurd hf h34) hg2
            refine ev_b bX4_readSet_88_89 (lv' := [(3, .int (nI (k))), (1, .int (nI (s1))), (2, .int (nI (o1))), (0, .ref 0)]) (st' := [.int (nI (o1))]) (w2 := scrW 0 ((C.lt, C.st, C.wd, C.f1, C.f2, C.f3, C.sz, p1, (rdItem C.lt C.sz (C.pl, C.fa)).2.2, C.sn) : ScrN)) rfl ?_
            refine ev_if_eq_n (tgt := 96) (by omega) dX4_readSet_89 (by decide) (fun h89 => ?_) (fun h89 => ?_)
            · skip
              refine ev_b bX4_readSet_96_97 (lv' := [(3, .int (nI (k))), (1, .int (nI (s1))), (2, .int (nI (o1))), (0, .ref 0)]) (st' := [.int (-1)]) (w2 := scrW 0 ((C.lt, C.st, C.wd, C.f1, C.f2, C.f3, C.sz, p1, (rdItem C.lt C.sz (C.pl, C.fa)).2.2, C.sn) : ScrN)) rfl ?_
              exact ev_iret dX4_readSet_97 rfl (Nat.le_of_ble_eq_true rfl) (Nat.le_refl _) (Nat.le_refl _) ⟨(by rw [hE]; first | exact (if_pos (show o1 = 1 by omega)).symm | (show some (Value.int (-1)) = some (Value.int (zI (setZ (s1, o1, 0)))); rw [show setZ (s1, o1, 0) = -1 from if_neg (show ¬ o1 = 1 by omega)]; exact congrArg (fun v => some (Value.int v)) (show (-1 : Int32) = zI (-1) from by decide))), (by rw [hE])⟩
            · skip
              refine ev_b bX4_readSet_92_97 (lv' := [(3, .int (nI (k))), (1, .int (nI (s1))), (2, .int (nI (o1))), (0, .ref 0)]) (st' := [.int (nI (s1))]) (w2 := scrW 0 ((C.lt, C.st, C.wd, C.f1, C.f2, C.f3, C.sz, p1, (rdItem C.lt C.sz (C.pl, C.fa)).2.2, C.sn) : ScrN)) rfl ?_
              exact ev_iret dX4_readSet_97 rfl (Nat.le_of_ble_eq_true rfl) (Nat.le_refl _) (Nat.le_refl _) ⟨(congrArg (fun t => some (Value.int t)) (show nI (s1) = zI ((rdSet C.lt C.sz (C.pl, C.fa)).1) from by rw [← zI_nat]; exact congrArg zI (by rw [hE]; first | exact (if_pos (show o1 = 1 by omega)).symm | (show some (Value.int (-1)) = some (Value.int (zI (setZ (s1, o1, 0)))); rw [show setZ (s1, o1, 0) = -1 from if_neg (show ¬ o1 = 1 by omega)]; exact congrArg (fun v => some (Value.int v)) (show (-1 : Int32) = zI (-1) from by decide))))), (by rw [hE])⟩
          · skip
            have hsg := sgz_lt (lt := C.lt) (n := C.sz) (p := p1) (by omega)
            have hl97 : 97 ≤ C.lt p1 ∧ C.lt p1 ≤ 122 := by omega
            have e1 : rdItem C.lt C.sz (p1, (rdItem C.lt C.sz (C.pl, C.fa)).2.2) = (C.lt p1 - 97, (p1 + 1, (rdItem C.lt C.sz (C.pl, C.fa)).2.2)) := ((if_pos h34).trans (if_pos h44)).trans (by rw [h34])
            refine ev_b bX4_readSet_47_49 (lv' := [(3, .int (nI (k))), (1, .int (nI (s1))), (2, .int (nI (o1))), (0, .ref 0)]) (st' := [.ref 0, .int (nI (1))]) (w2 := scrW 0 ((C.lt, C.st, C.wd, C.f1, C.f2, C.f3, C.sz, p1, (rdItem C.lt C.sz (C.pl, C.fa)).2.2, C.sn) : ScrN)) rfl ?_
            refine ev_callV (Yc := mX4_readItem) [0, 1, 2, 3, 4, 5, 6] dX4_readSet_49 tw_353 kX4_readItem (m_X4_readItem ((C.lt, C.st, C.wd, C.f1, C.f2, C.f3, C.sz, p1, (rdItem C.lt C.sz (C.pl, C.fa)).2.2, C.sn) : ScrN) hC ⟨hp1, hiok.2⟩) rfl (st := [.int (nI (1))]) rfl rfl rfl (by decide) rfl (by decide) (Nat.le_of_ble_eq_true rfl) (Nat.le_refl _) (Nat.le_refl _) (fun r w' h => by obtain ⟨-, rfl⟩ := h; exact Nat.le_of_ble_eq_true rfl) ?_
            rintro _ _ ⟨rfl, rfl⟩
            refine ev_eq (lv' := [(3, .int (nI (k))), (1, .int (nI (s1))), (2, .int (nI (o1))), (0, .ref 0)]) (st' := [.int (nI ((rdItem C.lt C.sz (p1, (rdItem C.lt C.sz (C.pl, C.fa)).2.2)).1)), .int (nI (1))]) (w' := scrW 0 ((C.lt, C.st, C.wd, C.f1, C.f2, C.f3, C.sz, (rdItem C.lt C.sz (p1, (rdItem C.lt C.sz (C.pl, C.fa)).2.2)).2.1, (rdItem C.lt C.sz (p1, (rdItem C.lt C.sz (C.pl, C.fa)).2.2)).2.2, C.sn) : ScrN)) rfl rfl rfl ?_
            refine ev_top (y := (nI (C.lt p1 - 97))) (congrArg nI (show (rdItem C.lt C.sz (p1, (rdItem C.lt C.sz (C.pl, C.fa)).2.2)).1 = C.lt p1 - 97 from by rw [e1])) ?_
            refine ev_eq (w' := scrW 0 ((C.lt, C.st, C.wd, C.f1, C.f2, C.f3, C.sz, p1 + 1, (rdItem C.lt C.sz (C.pl, C.fa)).2.2, C.sn) : ScrN)) rfl rfl (by rw [e1]) ?_
            refine ev_ishl_n (by omega) dX4_readSet_52 ?_
            refine ev_b bX4_readSet_53_55 (lv' := [(3, .int (nI (k))), (1, .int (nI (s1))), (2, .int (nI (o1))), (0, .ref 0)]) (st' := [.int (nI (63)), .int (nI (1 <<< (C.lt p1 - 97)))]) (w2 := scrW 0 ((C.lt, C.st, C.wd, C.f1, C.f2, C.f3, C.sz, p1 + 1, (rdItem C.lt C.sz (C.pl, C.fa)).2.2, C.sn) : ScrN)) rfl ?_
            refine ev_iand_n dX4_readSet_55 ?_
            refine ev_b bX4_readSet_56_59 (lv' := [(3, .int (nI (k))), (1, .int (nI (s1))), (2, .int (nI (o1))), (0, .ref 0)]) (st' := [.int (nI (s1) ^^^ (-1)), .int (nI ((1 <<< (C.lt p1 - 97)) &&& 63))]) (w2 := scrW 0 ((C.lt, C.st, C.wd, C.f1, C.f2, C.f3, C.sz, p1 + 1, (rdItem C.lt C.sz (C.pl, C.fa)).2.2, C.sn) : ScrN)) rfl ?_
            refine ev_iandn_n dX4_readSet_59 ?_
            refine ev_top (y := nI (itB (C.lt p1 - 97) s1)) rfl ?_
            have hib := itB_lt (x := C.lt p1 - 97) (set := s1)
            refine ev_b bX4_readSet_60_63 (lv' := [(4, .int (nI (itB (C.lt p1 - 97) s1))), (3, .int (nI (k))), (1, .int (nI (s1))), (2, .int (nI (o1))), (0, .ref 0)]) (st' := [.int (nI (o1))]) (w2 := scrW 0 ((C.lt, C.st, C.wd, C.f1, C.f2, C.f3, C.sz, p1 + 1, (rdItem C.lt C.sz (C.pl, C.fa)).2.2, C.sn) : ScrN)) rfl ?_
            refine ev_if_eq_n (tgt := 75) (by omega) dX4_readSet_63 (by decide) (fun h63 => ?_) (fun h63 => ?_)
            · skip
              refine ev_b bX4_readSet_75_76 (lv' := [(4, .int (nI (itB (C.lt p1 - 97) s1))), (3, .int (nI (k))), (1, .int (nI (s1))), (2, .int (nI (o1))), (0, .ref 0)]) (st' := [.int (nI (0))]) (w2 := scrW 0 ((C.lt, C.st, C.wd, C.f1, C.f2, C.f3, C.sz, p1 + 1, (rdItem C.lt C.sz (C.pl, C.fa)).2.2, C.sn) : ScrN)) rfl ?_
              have hnext : p1 + 1 ≤ C.sz ∧ (s1 ||| itB (C.lt p1 - 97) s1) < 64 ∧ 0 ≤ 1 ∧ ((rdItem C.lt C.sz (C.pl, C.fa)).2.2 = -9 → setGo C.lt C.sz (96 - (k + 1)) (s1 ||| itB (C.lt p1 - 97) s1) 0 (p1 + 1) = setGo C.lt C.sz 96 (rdSet0 (rdItem C.lt C.sz (C.pl, C.fa))).1 (rdSet0 (rdItem C.lt C.sz (C.pl, C.fa))).2 (rdItem C.lt C.sz (C.pl, C.fa)).2.1) ∧ ((rdItem C.lt C.sz (C.pl, C.fa)).2.2 ≠ -9 → (s1 ||| itB (C.lt p1 - 97) s1) = (rdSet0 (rdItem C.lt C.sz (C.pl, C.fa))).1 ∧ 0 = (rdSet0 (rdItem C.lt C.sz (C.pl, C.fa))).2 ∧ p1 + 1 = (rdItem C.lt C.sz (C.pl, C.fa)).2.1) := ⟨hsg.1, Nat.or_lt_two_pow (n := 6) hs1 itB_lt, by omega, fun hf => set_step hlt22 h44 (hg1 hf) (by first | exact if_pos ⟨by omega, by omega⟩ | exact if_neg (fun z => by omega)), fun hf => absurd h34 hf⟩
              refine ev_b bX4_readSet_76_80 (lv' := [(2, .int (nI (0))), (4, .int (nI (itB (C.lt p1 - 97) s1))), (3, .int (nI (k))), (1, .int (nI (s1))), (0, .ref 0)]) (st' := [.int (nI (itB (C.lt p1 - 97) s1)), .int (nI (s1))]) (w2 := scrW 0 ((C.lt, C.st, C.wd, C.f1, C.f2, C.f3, C.sz, p1 + 1, (rdItem C.lt C.sz (C.pl, C.fa)).2.2, C.sn) : ScrN)) rfl ?_
              refine ev_ior_n dX4_readSet_80 ?_
              refine ev_b bX4_readSet_81_82 (lv' := [(1, .int (nI (s1 ||| (itB (C.lt p1 - 97) s1)))), (2, .int (nI (0))), (4, .int (nI (itB (C.lt p1 - 97) s1))), (3, .int (nI (k))), (0, .ref 0)]) (st' := []) (w2 := scrW 0 ((C.lt, C.st, C.wd, C.f1, C.f2, C.f3, C.sz, p1 + 1, (rdItem C.lt C.sz (C.pl, C.fa)).2.2, C.sn) : ScrN)) rfl ?_
              refine ev_iinc_n (x := k) (v := 1) dX4_readSet_82 rfl (by decide) ?_
              refine ev_eq (lv' := [(3, .int (nI (k + 1))), (1, .int (nI (s1 ||| (itB (C.lt p1 - 97) s1)))), (2, .int (nI (0))), (4, .int (nI (itB (C.lt p1 - 97) s1))), (0, .ref 0)]) rfl rfl rfl ?_
              refine ev_b bX4_readSet_85_22 (lv' := [(3, .int (nI (k + 1))), (1, .int (nI (s1 ||| (itB (C.lt p1 - 97) s1)))), (2, .int (nI (0))), (4, .int (nI (itB (C.lt p1 - 97) s1))), (0, .ref 0)]) (st' := []) (w2 := scrW 0 ((C.lt, C.st, C.wd, C.f1, C.f2, C.f3, C.sz, p1 + 1, (rdItem C.lt C.sz (C.pl, C.fa)).2.2, C.sn) : ScrN)) rfl ?_
              refine ev_pick (lv' := [(3, .int (nI (k + 1))), (1, .int (nI (s1 ||| (itB (C.lt p1 - 97) s1)))), (2, .int (nI (0))), (0, .ref 0)]) rfl ?_
              rw [show nI (k + 1) = nI ((k + 1)) from congrArg nI (by omega)]
              exact ih22 (k + 1) (by omega) _ _ _ hnext
            · skip
              refine ev_b bX4_readSet_66_68 (lv' := [(4, .int (nI (itB (C.lt p1 - 97) s1))), (3, .int (nI (k))), (1, .int (nI (s1))), (2, .int (nI (o1))), (0, .ref 0)]) (st' := [.int (nI (itB (C.lt p1 - 97) s1))]) (w2 := scrW 0 ((C.lt, C.st, C.wd, C.f1, C.f2, C.f3, C.sz, p1 + 1, (rdItem C.lt C.sz (C.pl, C.fa)).2.2, C.sn) : ScrN)) rfl ?_
              refine ev_if_eq_n (tgt := 75) (by omega) dX4_readSet_68 (by decide) (fun h68 => ?_) (fun h68 => ?_)
              · skip
                refine ev_b bX4_readSet_75_76 (lv' := [(4, .int (nI (itB (C.lt p1 - 97) s1))), (3, .int (nI (k))), (1, .int (nI (s1))), (2, .int (nI (o1))), (0, .ref 0)]) (st' := [.int (nI (0))]) (w2 := scrW 0 ((C.lt, C.st, C.wd, C.f1, C.f2, C.f3, C.sz, p1 + 1, (rdItem C.lt C.sz (C.pl, C.fa)).2.2, C.sn) : ScrN)) rfl ?_
                have hnext : p1 + 1 ≤ C.sz ∧ (s1 ||| itB (C.lt p1 - 97) s1) < 64 ∧ 0 ≤ 1 ∧ ((rdItem C.lt C.sz (C.pl, C.fa)).2.2 = -9 → setGo C.lt C.sz (96 - (k + 1)) (s1 ||| itB (C.lt p1 - 97) s1) 0 (p1 + 1) = setGo C.lt C.sz 96 (rdSet0 (rdItem C.lt C.sz (C.pl, C.fa))).1 (rdSet0 (rdItem C.lt C.sz (C.pl, C.fa))).2 (rdItem C.lt C.sz (C.pl, C.fa)).2.1) ∧ ((rdItem C.lt C.sz (C.pl, C.fa)).2.2 ≠ -9 → (s1 ||| itB (C.lt p1 - 97) s1) = (rdSet0 (rdItem C.lt C.sz (C.pl, C.fa))).1 ∧ 0 = (rdSet0 (rdItem C.lt C.sz (C.pl, C.fa))).2 ∧ p1 + 1 = (rdItem C.lt C.sz (C.pl, C.fa)).2.1) := ⟨hsg.1, Nat.or_lt_two_pow (n := 6) hs1 itB_lt, by omega, fun hf => set_step hlt22 h44 (hg1 hf) (by first | exact if_pos ⟨by omega, by omega⟩ | exact if_neg (fun z => by omega)), fun hf => absurd h34 hf⟩
                refine ev_b bX4_readSet_76_80 (lv' := [(2, .int (nI (0))), (4, .int (nI (itB (C.lt p1 - 97) s1))), (3, .int (nI (k))), (1, .int (nI (s1))), (0, .ref 0)]) (st' := [.int (nI (itB (C.lt p1 - 97) s1)), .int (nI (s1))]) (w2 := scrW 0 ((C.lt, C.st, C.wd, C.f1, C.f2, C.f3, C.sz, p1 + 1, (rdItem C.lt C.sz (C.pl, C.fa)).2.2, C.sn) : ScrN)) rfl ?_
                refine ev_ior_n dX4_readSet_80 ?_
                refine ev_b bX4_readSet_81_82 (lv' := [(1, .int (nI (s1 ||| (itB (C.lt p1 - 97) s1)))), (2, .int (nI (0))), (4, .int (nI (itB (C.lt p1 - 97) s1))), (3, .int (nI (k))), (0, .ref 0)]) (st' := []) (w2 := scrW 0 ((C.lt, C.st, C.wd, C.f1, C.f2, C.f3, C.sz, p1 + 1, (rdItem C.lt C.sz (C.pl, C.fa)).2.2, C.sn) : ScrN)) rfl ?_
                refine ev_iinc_n (x := k) (v := 1) dX4_readSet_82 rfl (by decide) ?_
                refine ev_eq (lv' := [(3, .int (nI (k + 1))), (1, .int (nI (s1 ||| (itB (C.lt p1 - 97) s1)))), (2, .int (nI (0))), (4, .int (nI (itB (C.lt p1 - 97) s1))), (0, .ref 0)]) rfl rfl rfl ?_
                refine ev_b bX4_readSet_85_22 (lv' := [(3, .int (nI (k + 1))), (1, .int (nI (s1 ||| (itB (C.lt p1 - 97) s1)))), (2, .int (nI (0))), (4, .int (nI (itB (C.lt p1 - 97) s1))), (0, .ref 0)]) (st' := []) (w2 := scrW 0 ((C.lt, C.st, C.wd, C.f1, C.f2, C.f3, C.sz, p1 + 1, (rdItem C.lt C.sz (C.pl, C.fa)).2.2, C.sn) : ScrN)) rfl ?_
                refine ev_pick (lv' := [(3, .int (nI (k + 1))), (1, .int (nI (s1 ||| (itB (C.lt p1 - 97) s1)))), (2, .int (nI (0))), (0, .ref 0)]) rfl ?_
                rw [show nI (k + 1) = nI ((k + 1)) from congrArg nI (by omega)]
                exact ih22 (k + 1) (by omega) _ _ _ hnext
              · skip
                refine ev_b bX4_readSet_71_76 (lv' := [(4, .int (nI (itB (C.lt p1 - 97) s1))), (3, .int (nI (k))), (1, .int (nI (s1))), (2, .int (nI (o1))), (0, .ref 0)]) (st' := [.int (nI (1))]) (w2 := scrW 0 ((C.lt, C.st, C.wd, C.f1, C.f2, C.f3, C.sz, p1 + 1, (rdItem C.lt C.sz (C.pl, C.fa)).2.2, C.sn) : ScrN)) rfl ?_
                have hnext : p1 + 1 ≤ C.sz ∧ (s1 ||| itB (C.lt p1 - 97) s1) < 64 ∧ 1 ≤ 1 ∧ ((rdItem C.lt C.sz (C.pl, C.fa)).2.2 = -9 → setGo C.lt C.sz (96 - (k + 1)) (s1 ||| itB (C.lt p1 - 97) s1) 1 (p1 + 1) = setGo C.lt C.sz 96 (rdSet0 (rdItem C.lt C.sz (C.pl, C.fa))).1 (rdSet0 (rdItem C.lt C.sz (C.pl, C.fa))).2 (rdItem C.lt C.sz (C.pl, C.fa)).2.1) ∧ ((rdItem C.lt C.sz (C.pl, C.fa)).2.2 ≠ -9 → (s1 ||| itB (C.lt p1 - 97) s1) = (rdSet0 (rdItem C.lt C.sz (C.pl, C.fa))).1 ∧ 1 = (rdSet0 (rdItem C.lt C.sz (C.pl, C.fa))).2 ∧ p1 + 1 = (rdItem C.lt C.sz (C.pl, C.fa)).2.1) := ⟨hsg.1, Nat.or_lt_two_pow (n := 6) hs1 itB_lt, by omega, fun hf => set_step hlt22 h44 (hg1 hf) (by first | exact if_pos ⟨by omega, by omega⟩ | exact if_neg (fun z => by omega)), fun hf => absurd h34 hf⟩
                refine ev_b bX4_readSet_76_80 (lv' := [(2, .int (nI (1))), (4, .int (nI (itB (C.lt p1 - 97) s1))), (3, .int (nI (k))), (1, .int (nI (s1))), (0, .ref 0)]) (st' := [.int (nI (itB (C.lt p1 - 97) s1)), .int (nI (s1))]) (w2 := scrW 0 ((C.lt, C.st, C.wd, C.f1, C.f2, C.f3, C.sz, p1 + 1, (rdItem C.lt C.sz (C.pl, C.fa)).2.2, C.sn) : ScrN)) rfl ?_
                refine ev_ior_n dX4_readSet_80 ?_
                refine ev_b bX4_readSet_81_82 (lv' := [(1, .int (nI (s1 ||| (itB (C.lt p1 - 97) s1)))), (2, .int (nI (1))), (4, .int (nI (itB (C.lt p1 - 97) s1))), (3, .int (nI (k))), (0, .ref 0)]) (st' := []) (w2 := scrW 0 ((C.lt, C.st, C.wd, C.f1, C.f2, C.f3, C.sz, p1 + 1, (rdItem C.lt C.sz (C.pl, C.fa)).2.2, C.sn) : ScrN)) rfl ?_
                refine ev_iinc_n (x := k) (v := 1) dX4_readSet_82 rfl (by decide) ?_
                refine ev_eq (lv' := [(3, .int (nI (k + 1))), (1, .int (nI (s1 ||| (itB (C.lt p1 - 97) s1)))), (2, .int (nI (1))), (4, .int (nI (itB (C.lt p1 - 97) s1))), (0, .ref 0)]) rfl rfl rfl ?_
                refine ev_b bX4_readSet_85_22 (lv' := [(3, .int (nI (k + 1))), (1, .int (nI (s1 ||| (itB (C.lt p1 - 97) s1)))), (2, .int (nI (1))), (4, .int (nI (itB (C.lt p1 - 97) s1))), (0, .ref 0)]) (st' := []) (w2 := scrW 0 ((C.lt, C.st, C.wd, C.f1, C.f2, C.f3, C.sz, p1 + 1, (rdItem C.lt C.sz (C.pl, C.fa)).2.2, C.sn) : ScrN)) rfl ?_
                refine ev_pick (lv' := [(3, .int (nI (k + 1))), (1, .int (nI (s1 ||| (itB (C.lt p1 - 97) s1)))), (2, .int (nI (1))), (0, .ref 0)]) rfl ?_
                rw [show nI (k + 1) = nI ((k + 1)) from congrArg nI (by omega)]
                exact ih22 (k + 1) (by omega) _ _ _ hnext
    refine ev_pick (lv' := [(3, .int (nI (0))), (1, .int (nI ((rdSet0 (rdItem C.lt C.sz (C.pl, C.fa))).1))), (2, .int (nI (0))), (0, .ref 0)]) rfl ?_
    exact L22 96 0 (by omega) _ _ _ ⟨hiok.1, hs0.1, by omega, fun _ => by rw [ho0]; try rfl, fun _ => ⟨rfl, ho0.symm, rfl⟩⟩
  · skip
    have ho0 : (rdSet0 (rdItem C.lt C.sz (C.pl, C.fa))).2 = 1 := if_neg h11
    refine ev_b bX4_readSet_14_22 (lv' := [(3, .int (nI (0))), (2, .int (nI (1))), (1, .int (nI ((rdSet0 (rdItem C.lt C.sz (C.pl, C.fa))).1))), (0, .ref 0)]) (st' := []) (w2 := scrW 0 ((C.lt, C.st, C.wd, C.f1, C.f2, C.f3, C.sz, ((rdItem C.lt C.sz (C.pl, C.fa)).2).1, ((rdItem C.lt C.sz (C.pl, C.fa)).2).2, C.sn) : ScrN)) rfl ?_
    have L22 : ∀ (j_ k : Nat), k + j_ = 96 → ∀ (s1 o1 p1 : Nat), (p1 ≤ C.sz ∧ s1 < 64 ∧ o1 ≤ 1 ∧ ((rdItem C.lt C.sz (C.pl, C.fa)).2.2 = -9 → setGo C.lt C.sz (96 - k) s1 o1 p1 = setGo C.lt C.sz 96 (rdSet0 (rdItem C.lt C.sz (C.pl, C.fa))).1 (rdSet0 (rdItem C.lt C.sz (C.pl, C.fa))).2 (rdItem C.lt C.sz (C.pl, C.fa)).2.1) ∧ ((rdItem C.lt C.sz (C.pl, C.fa)).2.2 ≠ -9 → s1 = (rdSet0 (rdItem C.lt C.sz (C.pl, C.fa))).1 ∧ o1 = (rdSet0 (rdItem C.lt C.sz (C.pl, C.fa))).2 ∧ p1 = (rdItem C.lt C.sz (C.pl, C.fa)).2.1)) → Ev l E mX4_readSet (2) 0 0 (scrW 0 C) (fun r w' => r = some (.int (zI ((rdSet C.lt C.sz (C.pl, C.fa)).1))) ∧ w' = scrW 0 ((C.lt, C.st, C.wd, C.f1, C.f2, C.f3, C.sz, ((rdSet C.lt C.sz (C.pl, C.fa)).2).1, ((rdSet C.lt C.sz (C.pl, C.fa)).2).2, C.sn) : ScrN)) 0 0 22 [(3, .int (nI (k))), (1, .int (nI (s1))), (2, .int (nI (o1))), (0, .ref 0)] [] (scrW 0 ((C.lt, C.st, C.wd, C.f1, C.f2, C.f3, C.sz, p1, (rdItem C.lt C.sz (C.pl, C.fa)).2.2, C.sn) : ScrN)) := by
      intro j_
      induction j_ with
      | zero =>
        intro k hk22 s1 o1 p1 hinv22
        replace hk22 : k = 96 := hk22
        subst hk22
        obtain ⟨hp1, hs1, ho1, hg1, hg2⟩ := hinv22
        refine ev_b bX4_readSet_22_25 (lv' := [(3, .int (nI (96))), (1, .int (nI (s1))), (2, .int (nI (o1))), (0, .ref 0)]) (st' := [.int (nI (96)), .int (nI (96))]) (w2 := scrW 0 ((C.lt, C.st, C.wd, C.f1, C.f2, C.f3, C.sz, p1, (rdItem C.lt C.sz (C.pl, C.fa)).2.2, C.sn) : ScrN)) rfl ?_
        refine ev_icmp_ge_n (tgt := 88) (by decide) (by decide) dX4_readSet_25 (by decide) (fun h25 => ?_) (fun h25 => (by exfalso; omega))
        have hE : rdSet C.lt C.sz (C.pl, C.fa) = (setZ (s1, o1, 0), (p1, (rdItem C.lt C.sz (C.pl, C.fa)).2.2)) := set_end (fun hf => (hg1 hf).symm) hg2
        refine ev_b bX4_readSet_88_89 (lv' := [(3, .int (nI (96))), (1, .int (nI (s1))), (2, .int (nI (o1))), (0, .ref 0)]) (st' := [.int (nI (o1))]) (w2 := scrW 0 ((C.lt, C.st, C.wd, C.f1, C.f2, C.f3, C.sz, p1, (rdItem C.lt C.sz (C.pl, C.fa)).2.2, C.sn) : ScrN)) rfl ?_
        refine ev_if_eq_n (tgt := 96) (by omega) dX4_readSet_89 (by decide) (fun h89 => ?_) (fun h89 => ?_)
        · skip
          refine ev_b bX4_readSet_96_97 (lv' := [(3, .int (nI (96))), (1, .int (nI (s1))), (2, .int (nI (o1))), (0, .ref 0)]) (st' := [.int (-1)]) (w2 := scrW 0 ((C.lt, C.st, C.wd, C.f1, C.f2, C.f3, C.sz, p1, (rdItem C.lt C.sz (C.pl, C.fa)).2.2, C.sn) : ScrN)) rfl ?_
          exact ev_iret dX4_readSet_97 rfl (Nat.le_of_ble_eq_true rfl) (Nat.le_refl _) (Nat.le_refl _) ⟨(by rw [hE]; first | exact (if_pos (show o1 = 1 by omega)).symm | (show some (Value.int (-1)) = some (Value.int (zI (setZ (s1, o1, 0)))); rw [show setZ (s1, o1, 0) = -1 from if_neg (show ¬ o1 = 1 by omega)]; exact congrArg (fun v => some (Value.int v)) (show (-1 : Int32) = zI (-1) from by decide))), (by rw [hE])⟩
        · skip
          refine ev_b bX4_readSet_92_97 (lv' := [(3, .int (nI (96))), (1, .int (nI (s1))), (2, .int (nI (o1))), (0, .ref 0)]) (st' := [.int (nI (s1))]) (w2 := scrW 0 ((C.lt, C.st, C.wd, C.f1, C.f2, C.f3, C.sz, p1, (rdItem C.lt C.sz (C.pl, C.fa)).2.2, C.sn) : ScrN)) rfl ?_
          exact ev_iret dX4_readSet_97 rfl (Nat.le_of_ble_eq_true rfl) (Nat.le_refl _) (Nat.le_refl _) ⟨(congrArg (fun t => some (Value.int t)) (show nI (s1) = zI ((rdSet C.lt C.sz (C.pl, C.fa)).1) from by rw [← zI_nat]; exact congrArg zI (by rw [hE]; first | exact (if_pos (show o1 = 1 by omega)).symm | (show some (Value.int (-1)) = some (Value.int (zI (setZ (s1, o1, 0)))); rw [show setZ (s1, o1, 0) = -1 from if_neg (show ¬ o1 = 1 by omega)]; exact congrArg (fun v => some (Value.int v)) (show (-1 : Int32) = zI (-1) from by decide))))), (by rw [hE])⟩
      | succ j_ ih22 =>
        intro k hk22 s1 o1 p1 hinv22
        have hlt22 : k < 96 := by omega
        obtain ⟨hp1, hs1, ho1, hg1, hg2⟩ := hinv22
        refine ev_b bX4_readSet_22_25 (lv' := [(3, .int (nI (k))), (1, .int (nI (s1))), (2, .int (nI (o1))), (0, .ref 0)]) (st' := [.int (nI (96)), .int (nI (k))]) (w2 := scrW 0 ((C.lt, C.st, C.wd, C.f1, C.f2, C.f3, C.sz, p1, (rdItem C.lt C.sz (C.pl, C.fa)).2.2, C.sn) : ScrN)) rfl ?_
        refine ev_icmp_ge_n (tgt := 88) (by omega) (by decide) dX4_readSet_25 (by decide) (fun h25 => (by exfalso; omega)) (fun h25 => ?_)
        refine ev_b bX4_readSet_28_34 (lv' := [(3, .int (nI (k))), (1, .int (nI (s1))), (2, .int (nI (o1))), (0, .ref 0)]) (st' := [.int (-9), .int (zI ((rdItem C.lt C.sz (C.pl, C.fa)).2.2))]) (w2 := scrW 0 ((C.lt, C.st, C.wd, C.f1, C.f2, C.f3, C.sz, p1, (rdItem C.lt C.sz (C.pl, C.fa)).2.2, C.sn) : ScrN)) rfl ?_
        refine ev_top (y := zI (-9)) (by decide) ?_
        refine ev_icmp_ne_z (tgt := 88) (by constructor <;> omega) (by constructor <;> omega) dX4_readSet_34 (by decide) (fun h34 => ?_) (fun h34 => ?_)
        · skip
          have hE : rdSet C.lt C.sz (C.pl, C.fa) = (setZ (s1, o1, 0), (p1, (rdItem C.lt C.sz (C.pl, C.fa)).2.2)) := set_end (fun hf => by first | (rw [← hg1 hf, show 96 - k = (95 - k) + 1 by omega, setGo_s, if_neg h44]) | exact absurd hf h34) hg2
          refine ev_b bX4_readSet_88_89 (lv' := [(3, .int (nI (k))), (1, .int (nI (s1))), (2, .int (nI (o1))), (0, .ref 0)]) (st' := [.int (nI (o1))]) (w2 := scrW 0 ((C.lt, C.st, C.wd, C.f1, C.f2, C.f3, C.sz, p1, (rdItem C.lt C.sz (C.pl, C.fa)).2.2, C.sn) : ScrN)) rfl ?_
          refine ev_if_eq_n (tgt := 96) (by omega) dX4_readSet_89 (by decide) (fun h89 => ?_) (fun h89 => ?_)
          · skip
            refine ev_b bX4_readSet_96_97 (lv' := [(3, .int (nI (k))), (1, .int (nI (s1))), (2, .int (nI (o1))), (0, .ref 0)]) (st' := [.int (-1)]) (w2 := scrW 0 ((C.lt, C.st, C.wd, C.f1, C.f2, C.f3, C.sz, p1, (rdItem C.lt C.sz (C.pl, C.fa)).2.2, C.sn) : ScrN)) rfl ?_
            exact ev_iret dX4_readSet_97 rfl (Nat.le_of_ble_eq_true rfl) (Nat.le_refl _) (Nat.le_refl _) ⟨(by rw [hE]; first | exact (if_pos (show o1 = 1 by omega)).symm | (show some (Value.int (-1)) = some (Value.int (zI (setZ (s1, o1, 0)))); rw [show setZ (s1, o1, 0) = -1 from if_neg (show ¬ o1 = 1 by omega)]; exact congrArg (fun v => some (Value.int v)) (show (-1 : Int32) = zI (-1) from by decide))), (by rw [hE])⟩
          · skip
            refine ev_b bX4_readSet_92_97 (lv' := [(3, .int (nI (k))), (1, .int (nI (s1))), (2, .int (nI (o1))), (0, .ref 0)]) (st' := [.int (nI (s1))]) (w2 := scrW 0 ((C.lt, C.st, C.wd, C.f1, C.f2, C.f3, C.sz, p1, (rdItem C.lt C.sz (C.pl, C.fa)).2.2, C.sn) : ScrN)) rfl ?_
            exact ev_iret dX4_readSet_97 rfl (Nat.le_of_ble_eq_true rfl) (Nat.le_refl _) (Nat.le_refl _) ⟨(congrArg (fun t => some (Value.int t)) (show nI (s1) = zI ((rdSet C.lt C.sz (C.pl, C.fa)).1) from by rw [← zI_nat]; exact congrArg zI (by rw [hE]; first | exact (if_pos (show o1 = 1 by omega)).symm | (show some (Value.int (-1)) = some (Value.int (zI (setZ (s1, o1, 0)))); rw [show setZ (s1, o1, 0) = -1 from if_neg (show ¬ o1 = 1 by omega)]; exact congrArg (fun v => some (Value.int v)) (show (-1 : Int32) = zI (-1) from by decide))))), (by rw [hE])⟩
        · skip
          refine ev_b bX4_readSet_37_38 (lv' := [(3, .int (nI (k))), (1, .int (nI (s1))), (2, .int (nI (o1))), (0, .ref 0)]) (st' := [.ref 0]) (w2 := scrW 0 ((C.lt, C.st, C.wd, C.f1, C.f2, C.f3, C.sz, p1, (rdItem C.lt C.sz (C.pl, C.fa)).2.2, C.sn) : ScrN)) rfl ?_
          refine ev_callV (Yc := mX4_signHere) [0, 1, 2, 3, 4, 5, 6] dX4_readSet_38 tw_277 kX4_signHere (m_X4_signHere ((C.lt, C.st, C.wd, C.f1, C.f2, C.f3, C.sz, p1, (rdItem C.lt C.sz (C.pl, C.fa)).2.2, C.sn) : ScrN) hC ⟨hp1, hiok.2⟩) rfl (st := []) rfl rfl rfl (by decide) rfl (by decide) (Nat.le_of_ble_eq_true rfl) (Nat.le_refl _) (Nat.le_refl _) (fun r w' h => by obtain ⟨-, rfl⟩ := h; exact Nat.le_of_ble_eq_true rfl) ?_
          rintro _ _ ⟨rfl, rfl⟩
          refine ev_eq (lv' := [(3, .int (nI (k))), (1, .int (nI (s1))), (2, .int (nI (o1))), (0, .ref 0)]) (st' := [.int (zI (sgz C.lt C.sz p1))]) (w' := scrW 0 ((C.lt, C.st, C.wd, C.f1, C.f2, C.f3, C.sz, p1, (rdItem C.lt C.sz (C.pl, C.fa)).2.2, C.sn) : ScrN)) rfl rfl rfl ?_
          have hsb := sgz_bnd (lt := C.lt) (n := C.sz) (p := p1) hC.2
          refine ev_callS (Yc := mX4_isSmall) [] dX4_readSet_41 tw_281 kX4_isSmall (m_X4_isSmall (sgz C.lt C.sz p1) (by constructor <;> omega)) rfl (st := []) rfl (by decide) rfl (by decide) (Nat.le_of_ble_eq_true rfl) (Nat.le_refl _) (Nat.le_refl _) (fun r w' h => by obtain ⟨-, rfl⟩ := h; exact Nat.le_of_ble_eq_true rfl) ?_
          rintro _ _ ⟨rfl, rfl⟩
          refine ev_eq (lv' := [(3, .int (nI (k))), (1, .int (nI (s1))), (2, .int (nI (o1))), (0, .ref 0)]) (st' := [.int (nI (b01 (isSm (sgz C.lt C.sz p1))))]) (w' := scrW 0 ((C.lt, C.st, C.wd, C.f1, C.f2, C.f3, C.sz, p1, (rdItem C.lt C.sz (C.pl, C.fa)).2.2, C.sn) : ScrN)) rfl rfl rfl ?_
          refine ev_ifeq_b (tgt := 88) dX4_readSet_44 (by decide) (fun h44 => ?_) (fun h44 => ?_)
          · skip
            have hE : rdSet C.lt C.sz (C.pl, C.fa) = (setZ (s1, o1, 0), (p1, (rdItem C.lt C.sz (C.pl, C.fa)).2.2)) := set_end (fun hf => by first | (rw [← hg1 hf, show 96 - k = (95 - k) + 1 by omega, setGo_s, if_neg h44]) | exact absurd hf h34) hg2
            refine ev_b bX4_readSet_88_89 (lv' := [(3, .int (nI (k))), (1, .int (nI (s1))), (2, .int (nI (o1))), (0, .ref 0)]) (st' := [.int (nI (o1))]) (w2 := scrW 0 ((C.lt, C.st, C.wd, C.f1, C.f2, C.f3, C.sz, p1, (rdItem C.lt C.sz (C.pl, C.fa)).2.2, C.sn) : ScrN)) rfl ?_
            refine ev_if_eq_n (tgt := 96) (by omega) dX4_readSet_89 (by decide) (fun h89 => ?_) (fun h89 => ?_)
            · skip
              refine ev_b bX4_readSet_96_97 (lv' := [(3, .int (nI (k))), (1, .int (nI (s1))), (2, .int (nI (o1))), (0, .ref 0)]) (st' := [.int (-1)]) (w2 := scrW 0 ((C.lt, C.st, C.wd, C.f1, C.f2, C.f3, C.sz, p1, (rdItem C.lt C.sz (C.pl, C.fa)).2.2, C.sn) : ScrN)) rfl ?_
              exact ev_iret dX4_readSet_97 rfl (Nat.le_of_ble_eq_true rfl) (Nat.le_refl _) (Nat.le_refl _) ⟨(by rw [hE]; first | exact (if_pos (show o1 = 1 by omega)).symm | (show some (Value.int (-1)) = some (Value.int (zI (setZ (s1, o1, 0)))); rw [show setZ (s1, o1, 0) = -1 from if_neg (show ¬ o1 = 1 by omega)]; exact congrArg (fun v => some (Value.int v)) (show (-1 : Int32) = zI (-1) from by decide))), (by rw [hE])⟩
            · skip
              refine ev_b bX4_readSet_92_97 (lv' := [(3, .int (nI (k))), (1, .int (nI (s1))), (2, .int (nI (o1))), (0, .ref 0)]) (st' := [.int (nI (s1))]) (w2 := scrW 0 ((C.lt, C.st, C.wd, C.f1, C.f2, C.f3, C.sz, p1, (rdItem C.lt C.sz (C.pl, C.fa)).2.2, C.sn) : ScrN)) rfl ?_
              exact ev_iret dX4_readSet_97 rfl (Nat.le_of_ble_eq_true rfl) (Nat.le_refl _) (Nat.le_refl _) ⟨(congrArg (fun t => some (Value.int t)) (show nI (s1) = zI ((rdSet C.lt C.sz (C.pl, C.fa)).1) from by rw [← zI_nat]; exact congrArg zI (by rw [hE]; first | exact (if_pos (show o1 = 1 by omega)).symm | (show some (Value.int (-1)) = some (Value.int (zI (setZ (s1, o1, 0)))); rw [show setZ (s1, o1, 0) = -1 from if_neg (show ¬ o1 = 1 by omega)]; exact congrArg (fun v => some (Value.int v)) (show (-1 : Int32) = zI (-1) from by decide))))), (by rw [hE])⟩
          · skip
            have hsg := sgz_lt (lt := C.lt) (n := C.sz) (p := p1) (by omega)
            have hl97 : 97 ≤ C.lt p1 ∧ C.lt p1 ≤ 122 := by omega
            have e1 : rdItem C.lt C.sz (p1, (rdItem C.lt C.sz (C.pl, C.fa)).2.2) = (C.lt p1 - 97, (p1 + 1, (rdItem C.lt C.sz (C.pl, C.fa)).2.2)) := ((if_pos h34).trans (if_pos h44)).trans (by rw [h34])
            refine ev_b bX4_readSet_47_49 (lv' := [(3, .int (nI (k))), (1, .int (nI (s1))), (2, .int (nI (o1))), (0, .ref 0)]) (st' := [.ref 0, .int (nI (1))]) (w2 := scrW 0 ((C.lt, C.st, C.wd, C.f1, C.f2, C.f3, C.sz, p1, (rdItem C.lt C.sz (C.pl, C.fa)).2.2, C.sn) : ScrN)) rfl ?_
            refine ev_callV (Yc := mX4_readItem) [0, 1, 2, 3, 4, 5, 6] dX4_readSet_49 tw_353 kX4_readItem (m_X4_readItem ((C.lt, C.st, C.wd, C.f1, C.f2, C.f3, C.sz, p1, (rdItem C.lt C.sz (C.pl, C.fa)).2.2, C.sn) : ScrN) hC ⟨hp1, hiok.2⟩) rfl (st := [.int (nI (1))]) rfl rfl rfl (by decide) rfl (by decide) (Nat.le_of_ble_eq_true rfl) (Nat.le_refl _) (Nat.le_refl _) (fun r w' h => by obtain ⟨-, rfl⟩ := h; exact Nat.le_of_ble_eq_true rfl) ?_
            rintro _ _ ⟨rfl, rfl⟩
            refine ev_eq (lv' := [(3, .int (nI (k))), (1, .int (nI (s1))), (2, .int (nI (o1))), (0, .ref 0)]) (st' := [.int (nI ((rdItem C.lt C.sz (p1, (rdItem C.lt C.sz (C.pl, C.fa)).2.2)).1)), .int (nI (1))]) (w' := scrW 0 ((C.lt, C.st, C.wd, C.f1, C.f2, C.f3, C.sz, (rdItem C.lt C.sz (p1, (rdItem C.lt C.sz (C.pl, C.fa)).2.2)).2.1, (rdItem C.lt C.sz (p1, (rdItem C.lt C.sz (C.pl, C.fa)).2.2)).2.2, C.sn) : ScrN)) rfl rfl rfl ?_
            refine ev_top (y := (nI (C.lt p1 - 97))) (congrArg nI (show (rdItem C.lt C.sz (p1, (rdItem C.lt C.sz (C.pl, C.fa)).2.2)).1 = C.lt p1 - 97 from by rw [e1])) ?_
            refine ev_eq (w' := scrW 0 ((C.lt, C.st, C.wd, C.f1, C.f2, C.f3, C.sz, p1 + 1, (rdItem C.lt C.sz (C.pl, C.fa)).2.2, C.sn) : ScrN)) rfl rfl (by rw [e1]) ?_
            refine ev_ishl_n (by omega) dX4_readSet_52 ?_
            refine ev_b bX4_readSet_53_55 (lv' := [(3, .int (nI (k))), (1, .int (nI (s1))), (2, .int (nI (o1))), (0, .ref 0)]) (st' := [.int (nI (63)), .int (nI (1 <<< (C.lt p1 - 97)))]) (w2 := scrW 0 ((C.lt, C.st, C.wd, C.f1, C.f2, C.f3, C.sz, p1 + 1, (rdItem C.lt C.sz (C.pl, C.fa)).2.2, C.sn) : ScrN)) rfl ?_
            refine ev_iand_n dX4_readSet_55 ?_
            refine ev_b bX4_readSet_56_59 (lv' := [(3, .int (nI (k))), (1, .int (nI (s1))), (2, .int (nI (o1))), (0, .ref 0)]) (st' := [.int (nI (s1) ^^^ (-1)), .int (nI ((1 <<< (C.lt p1 - 97)) &&& 63))]) (w2 := scrW 0 ((C.lt, C.st, C.wd, C.f1, C.f2, C.f3, C.sz, p1 + 1, (rdItem C.lt C.sz (C.pl, C.fa)).2.2, C.sn) : ScrN)) rfl ?_
            refine ev_iandn_n dX4_readSet_59 ?_
            refine ev_top (y := nI (itB (C.lt p1 - 97) s1)) rfl ?_
            have hib := itB_lt (x := C.lt p1 - 97) (set := s1)
            refine ev_b bX4_readSet_60_63 (lv' := [(4, .int (nI (itB (C.lt p1 - 97) s1))), (3, .int (nI (k))), (1, .int (nI (s1))), (2, .int (nI (o1))), (0, .ref 0)]) (st' := [.int (nI (o1))]) (w2 := scrW 0 ((C.lt, C.st, C.wd, C.f1, C.f2, C.f3, C.sz, p1 + 1, (rdItem C.lt C.sz (C.pl, C.fa)).2.2, C.sn) : ScrN)) rfl ?_
            refine ev_if_eq_n (tgt := 75) (by omega) dX4_readSet_63 (by decide) (fun h63 => ?_) (fun h63 => ?_)
            · skip
              refine ev_b bX4_readSet_75_76 (lv' := [(4, .int (nI (itB (C.lt p1 - 97) s1))), (3, .int (nI (k))), (1, .int (nI (s1))), (2, .int (nI (o1))), (0, .ref 0)]) (st' := [.int (nI (0))]) (w2 := scrW 0 ((C.lt, C.st, C.wd, C.f1, C.f2, C.f3, C.sz, p1 + 1, (rdItem C.lt C.sz (C.pl, C.fa)).2.2, C.sn) : ScrN)) rfl ?_
              have hnext : p1 + 1 ≤ C.sz ∧ (s1 ||| itB (C.lt p1 - 97) s1) < 64 ∧ 0 ≤ 1 ∧ ((rdItem C.lt C.sz (C.pl, C.fa)).2.2 = -9 → setGo C.lt C.sz (96 - (k + 1)) (s1 ||| itB (C.lt p1 - 97) s1) 0 (p1 + 1) = setGo C.lt C.sz 96 (rdSet0 (rdItem C.lt C.sz (C.pl, C.fa))).1 (rdSet0 (rdItem C.lt C.sz (C.pl, C.fa))).2 (rdItem C.lt C.sz (C.pl, C.fa)).2.1) ∧ ((rdItem C.lt C.sz (C.pl, C.fa)).2.2 ≠ -9 → (s1 ||| itB (C.lt p1 - 97) s1) = (rdSet0 (rdItem C.lt C.sz (C.pl, C.fa))).1 ∧ 0 = (rdSet0 (rdItem C.lt C.sz (C.pl, C.fa))).2 ∧ p1 + 1 = (rdItem C.lt C.sz (C.pl, C.fa)).2.1) := ⟨hsg.1, Nat.or_lt_two_pow (n := 6) hs1 itB_lt, by omega, fun hf => set_step hlt22 h44 (hg1 hf) (by first | exact if_pos ⟨by omega, by omega⟩ | exact if_neg (fun z => by omega)), fun hf => absurd h34 hf⟩
              refine ev_b bX4_readSet_76_80 (lv' := [(2, .int (nI (0))), (4, .int (nI (itB (C.lt p1 - 97) s1))), (3, .int (nI (k))), (1, .int (nI (s1))), (0, .ref 0)]) (st' := [.int (nI (itB (C.lt p1 - 97) s1)), .int (nI (s1))]) (w2 := scrW 0 ((C.lt, C.st, C.wd, C.f1, C.f2, C.f3, C.sz, p1 + 1, (rdItem C.lt C.sz (C.pl, C.fa)).2.2, C.sn) : ScrN)) rfl ?_
              refine ev_ior_n dX4_readSet_80 ?_
              refine ev_b bX4_readSet_81_82 (lv' := [(1, .int (nI (s1 ||| (itB (C.lt p1 - 97) s1)))), (2, .int (nI (0))), (4, .int (nI (itB (C.lt p1 - 97) s1))), (3, .int (nI (k))), (0, .ref 0)]) (st' := []) (w2 := scrW 0 ((C.lt, C.st, C.wd, C.f1, C.f2, C.f3, C.sz, p1 + 1, (rdItem C.lt C.sz (C.pl, C.fa)).2.2, C.sn) : ScrN)) rfl ?_
              refine ev_iinc_n (x := k) (v := 1) dX4_readSet_82 rfl (by decide) ?_
              refine ev_eq (lv' := [(3, .int (nI (k + 1))), (1, .int (nI (s1 ||| (itB (C.lt p1 - 97) s1)))), (2, .int (nI (0))), (4, .int (nI (itB (C.lt p1 - 97) s1))), (0, .ref 0)]) rfl rfl rfl ?_
              refine ev_b bX4_readSet_85_22 (lv' := [(3, .int (nI (k + 1))), (1, .int (nI (s1 ||| (itB (C.lt p1 - 97) s1)))), (2, .int (nI (0))), (4, .int (nI (itB (C.lt p1 - 97) s1))), (0, .ref 0)]) (st' := []) (w2 := scrW 0 ((C.lt, C.st, C.wd, C.f1, C.f2, C.f3, C.sz, p1 + 1, (rdItem C.lt C.sz (C.pl, C.fa)).2.2, C.sn) : ScrN)) rfl ?_
              refine ev_pick (lv' := [(3, .int (nI (k + 1))), (1, .int (nI (s1 ||| (itB (C.lt p1 - 97) s1)))), (2, .int (nI (0))), (0, .ref 0)]) rfl ?_
              rw [show nI (k + 1) = nI ((k + 1)) from congrArg nI (by omega)]
              exact ih22 (k + 1) (by omega) _ _ _ hnext
            · skip
              refine ev_b bX4_readSet_66_68 (lv' := [(4, .int (nI (itB (C.lt p1 - 97) s1))), (3, .int (nI (k))), (1, .int (nI (s1))), (2, .int (nI (o1))), (0, .ref 0)]) (st' := [.int (nI (itB (C.lt p1 - 97) s1))]) (w2 := scrW 0 ((C.lt, C.st, C.wd, C.f1, C.f2, C.f3, C.sz, p1 + 1, (rdItem C.lt C.sz (C.pl, C.fa)).2.2, C.sn) : ScrN)) rfl ?_
              refine ev_if_eq_n (tgt := 75) (by omega) dX4_readSet_68 (by decide) (fun h68 => ?_) (fun h68 => ?_)
              · skip
                refine ev_b bX4_readSet_75_76 (lv' := [(4, .int (nI (itB (C.lt p1 - 97) s1))), (3, .int (nI (k))), (1, .int (nI (s1))), (2, .int (nI (o1))), (0, .ref 0)]) (st' := [.int (nI (0))]) (w2 := scrW 0 ((C.lt, C.st, C.wd, C.f1, C.f2, C.f3, C.sz, p1 + 1, (rdItem C.lt C.sz (C.pl, C.fa)).2.2, C.sn) : ScrN)) rfl ?_
                have hnext : p1 + 1 ≤ C.sz ∧ (s1 ||| itB (C.lt p1 - 97) s1) < 64 ∧ 0 ≤ 1 ∧ ((rdItem C.lt C.sz (C.pl, C.fa)).2.2 = -9 → setGo C.lt C.sz (96 - (k + 1)) (s1 ||| itB (C.lt p1 - 97) s1) 0 (p1 + 1) = setGo C.lt C.sz 96 (rdSet0 (rdItem C.lt C.sz (C.pl, C.fa))).1 (rdSet0 (rdItem C.lt C.sz (C.pl, C.fa))).2 (rdItem C.lt C.sz (C.pl, C.fa)).2.1) ∧ ((rdItem C.lt C.sz (C.pl, C.fa)).2.2 ≠ -9 → (s1 ||| itB (C.lt p1 - 97) s1) = (rdSet0 (rdItem C.lt C.sz (C.pl, C.fa))).1 ∧ 0 = (rdSet0 (rdItem C.lt C.sz (C.pl, C.fa))).2 ∧ p1 + 1 = (rdItem C.lt C.sz (C.pl, C.fa)).2.1) := ⟨hsg.1, Nat.or_lt_two_pow (n := 6) hs1 itB_lt, by omega, fun hf => set_step hlt22 h44 (hg1 hf) (by first | exact if_pos ⟨by omega, by omega⟩ | exact if_neg (fun z => by omega)), fun hf => absurd h34 hf⟩
                refine ev_b bX4_readSet_76_80 (lv' := [(2, .int (nI (0))), (4, .int (nI (itB (C.lt p1 - 97) s1))), (3, .int (nI (k))), (1, .int (nI (s1))), (0, .ref 0)]) (st' := [.int (nI (itB (C.lt p1 - 97) s1)), .int (nI (s1))]) (w2 := scrW 0 ((C.lt, C.st, C.wd, C.f1, C.f2, C.f3, C.sz, p1 + 1, (rdItem C.lt C.sz (C.pl, C.fa)).2.2, C.sn) : ScrN)) rfl ?_
                refine ev_ior_n dX4_readSet_80 ?_
                refine ev_b bX4_readSet_81_82 (lv' := [(1, .int (nI (s1 ||| (itB (C.lt p1 - 97) s1)))), (2, .int (nI (0))), (4, .int (nI (itB (C.lt p1 - 97) s1))), (3, .int (nI (k))), (0, .ref 0)]) (st' := []) (w2 := scrW 0 ((C.lt, C.st, C.wd, C.f1, C.f2, C.f3, C.sz, p1 + 1, (rdItem C.lt C.sz (C.pl, C.fa)).2.2, C.sn) : ScrN)) rfl ?_
                refine ev_iinc_n (x := k) (v := 1) dX4_readSet_82 rfl (by decide) ?_
                refine ev_eq (lv' := [(3, .int (nI (k + 1))), (1, .int (nI (s1 ||| (itB (C.lt p1 - 97) s1)))), (2, .int (nI (0))), (4, .int (nI (itB (C.lt p1 - 97) s1))), (0, .ref 0)]) rfl rfl rfl ?_
                refine ev_b bX4_readSet_85_22 (lv' := [(3, .int (nI (k + 1))), (1, .int (nI (s1 ||| (itB (C.lt p1 - 97) s1)))), (2, .int (nI (0))), (4, .int (nI (itB (C.lt p1 - 97) s1))), (0, .ref 0)]) (st' := []) (w2 := scrW 0 ((C.lt, C.st, C.wd, C.f1, C.f2, C.f3, C.sz, p1 + 1, (rdItem C.lt C.sz (C.pl, C.fa)).2.2, C.sn) : ScrN)) rfl ?_
                refine ev_pick (lv' := [(3, .int (nI (k + 1))), (1, .int (nI (s1 ||| (itB (C.lt p1 - 97) s1)))), (2, .int (nI (0))), (0, .ref 0)]) rfl ?_
                rw [show nI (k + 1) = nI ((k + 1)) from congrArg nI (by omega)]
                exact ih22 (k + 1) (by omega) _ _ _ hnext
              · skip
                refine ev_b bX4_readSet_71_76 (lv' := [(4, .int (nI (itB (C.lt p1 - 97) s1))), (3, .int (nI (k))), (1, .int (nI (s1))), (2, .int (nI (o1))), (0, .ref 0)]) (st' := [.int (nI (1))]) (w2 := scrW 0 ((C.lt, C.st, C.wd, C.f1, C.f2, C.f3, C.sz, p1 + 1, (rdItem C.lt C.sz (C.pl, C.fa)).2.2, C.sn) : ScrN)) rfl ?_
                have hnext : p1 + 1 ≤ C.sz ∧ (s1 ||| itB (C.lt p1 - 97) s1) < 64 ∧ 1 ≤ 1 ∧ ((rdItem C.lt C.sz (C.pl, C.fa)).2.2 = -9 → setGo C.lt C.sz (96 - (k + 1)) (s1 ||| itB (C.lt p1 - 97) s1) 1 (p1 + 1) = setGo C.lt C.sz 96 (rdSet0 (rdItem C.lt C.sz (C.pl, C.fa))).1 (rdSet0 (rdItem C.lt C.sz (C.pl, C.fa))).2 (rdItem C.lt C.sz (C.pl, C.fa)).2.1) ∧ ((rdItem C.lt C.sz (C.pl, C.fa)).2.2 ≠ -9 → (s1 ||| itB (C.lt p1 - 97) s1) = (rdSet0 (rdItem C.lt C.sz (C.pl, C.fa))).1 ∧ 1 = (rdSet0 (rdItem C.lt C.sz (C.pl, C.fa))).2 ∧ p1 + 1 = (rdItem C.lt C.sz (C.pl, C.fa)).2.1) := ⟨hsg.1, Nat.or_lt_two_pow (n := 6) hs1 itB_lt, by omega, fun hf => set_step hlt22 h44 (hg1 hf) (by first | exact if_pos ⟨by omega, by omega⟩ | exact if_neg (fun z => by omega)), fun hf => absurd h34 hf⟩
                refine ev_b bX4_readSet_76_80 (lv' := [(2, .int (nI (1))), (4, .int (nI (itB (C.lt p1 - 97) s1))), (3, .int (nI (k))), (1, .int (nI (s1))), (0, .ref 0)]) (st' := [.int (nI (itB (C.lt p1 - 97) s1)), .int (nI (s1))]) (w2 := scrW 0 ((C.lt, C.st, C.wd, C.f1, C.f2, C.f3, C.sz, p1 + 1, (rdItem C.lt C.sz (C.pl, C.fa)).2.2, C.sn) : ScrN)) rfl ?_
                refine ev_ior_n dX4_readSet_80 ?_
                refine ev_b bX4_readSet_81_82 (lv' := [(1, .int (nI (s1 ||| (itB (C.lt p1 - 97) s1)))), (2, .int (nI (1))), (4, .int (nI (itB (C.lt p1 - 97) s1))), (3, .int (nI (k))), (0, .ref 0)]) (st' := []) (w2 := scrW 0 ((C.lt, C.st, C.wd, C.f1, C.f2, C.f3, C.sz, p1 + 1, (rdItem C.lt C.sz (C.pl, C.fa)).2.2, C.sn) : ScrN)) rfl ?_
                refine ev_iinc_n (x := k) (v := 1) dX4_readSet_82 rfl (by decide) ?_
                refine ev_eq (lv' := [(3, .int (nI (k + 1))), (1, .int (nI (s1 ||| (itB (C.lt p1 - 97) s1)))), (2, .int (nI (1))), (4, .int (nI (itB (C.lt p1 - 97) s1))), (0, .ref 0)]) rfl rfl rfl ?_
                refine ev_b bX4_readSet_85_22 (lv' := [(3, .int (nI (k + 1))), (1, .int (nI (s1 ||| (itB (C.lt p1 - 97) s1)))), (2, .int (nI (1))), (4, .int (nI (itB (C.lt p1 - 97) s1))), (0, .ref 0)]) (st' := []) (w2 := scrW 0 ((C.lt, C.st, C.wd, C.f1, C.f2, C.f3, C.sz, p1 + 1, (rdItem C.lt C.sz (C.pl, C.fa)).2.2, C.sn) : ScrN)) rfl ?_
                refine ev_pick (lv' := [(3, .int (nI (k + 1))), (1, .int (nI (s1 ||| (itB (C.lt p1 - 97) s1)))), (2, .int (nI (1))), (0, .ref 0)]) rfl ?_
                rw [show nI (k + 1) = nI ((k + 1)) from congrArg nI (by omega)]
                exact ih22 (k + 1) (by omega) _ _ _ hnext
    refine ev_pick (lv' := [(3, .int (nI (0))), (1, .int (nI ((rdSet0 (rdItem C.lt C.sz (C.pl, C.fa))).1))), (2, .int (nI (1))), (0, .ref 0)]) rfl ?_
    exact L22 96 0 (by omega) _ _ _ ⟨hiok.1, hs0.1, by omega, fun _ => by rw [ho0]; try rfl, fun _ => ⟨rfl, ho0.symm, rfl⟩⟩
