/-! ===== the Model reads a statement ===== -/
theorem sign_sk {lt : Nat → Nat} {n s : Nat} {q : PF} (h : q.2 ≠ -9) : rdSign lt n s q = q := if_neg h
theorem num_sk {lt : Nat → Nat} {n : Nat} {q : PF} (h : q.2 ≠ -9) : (rdNum lt n q).2 = q := by
  have e : rdNum lt n q = (0, q) := if_neg h
  rw [e]
theorem item_sk {lt : Nat → Nat} {n : Nat} {q : PF} (h : q.2 ≠ -9) : (rdItem lt n q).2 = q := by
  have e : rdItem lt n q = (0, q) := if_neg h
  rw [e]
theorem set_sk {lt : Nat → Nat} {n : Nat} {q : PF} (h : q.2 ≠ -9) : (rdSet lt n q).2 = q := by
  unfold rdSet
  rw [if_neg (by rw [item_sk h]; exact h)]
  exact item_sk h
section STG
variable {lt : Nat → Nat} {n p : Nat} {q : PF}
theorem stg_A (h : q.2 ≠ -9) (e : rdSign lt n 32 (rdWord lt n p).2 = q) : (stA lt n p).2 = q := by
  unfold stA
  by_cases hc : (rdWord lt n p).1 = 3
  · rw [if_pos hc, e]
    exact item_sk h
  · rw [if_neg hc, e]
    exact num_sk h
theorem stg_B1 (h1 : (rdWord lt n p).1 ≠ 1) (h : q.2 ≠ -9) (e : rdSign lt n 32 (stA lt n p).2 = q) : (stB lt n p).2 = q := by
  unfold stB
  rw [if_neg h1, e]
  by_cases h0 : (rdWord lt n p).1 = 0
  · rw [if_pos h0]
    exact set_sk h
  · rw [if_neg h0]
    exact num_sk h
theorem stg_B (h : q.2 ≠ -9) (e : (stA lt n p).2 = q) : (stB lt n p).2 = q := by
  by_cases h1 : (rdWord lt n p).1 = 1
  · unfold stB
    rw [if_pos h1]
    exact e
  · exact stg_B1 h1 h (by rw [e]; exact sign_sk h)
theorem stg_C1 (h1 : (rdWord lt n p).1 = 0 ∨ (rdWord lt n p).1 = 2) (h : q.2 ≠ -9) (e : rdSign lt n 32 (stB lt n p).2 = q) : (stC lt n p).2 = q := by
  unfold stC
  rw [if_pos h1, e]
  exact num_sk h
theorem stg_C (h : q.2 ≠ -9) (e : (stB lt n p).2 = q) : (stC lt n p).2 = q := by
  by_cases h1 : (rdWord lt n p).1 = 0 ∨ (rdWord lt n p).1 = 2
  · exact stg_C1 h1 h (by rw [e]; exact sign_sk h)
  · unfold stC
    rw [if_neg h1]
    exact e
theorem stg_E (h : q.2 ≠ -9) (e : (stC lt n p).2 = q) : stE lt n p = q := by
  unfold stE
  rw [e]
  exact sign_sk h
theorem stg_1 (h1 : (rdWord lt n p).1 = 1) : (stC lt n p).2 = (stA lt n p).2 := by
  unfold stC
  rw [if_neg (by rw [h1]; decide)]
  unfold stB
  rw [if_pos h1]
theorem stg_2 (h1 : ¬ ((rdWord lt n p).1 = 0 ∨ (rdWord lt n p).1 = 2)) : (stC lt n p).2 = (stB lt n p).2 := by
  unfold stC
  rw [if_neg h1]
theorem num_ft {a : Nat} (h : (rdNum lt n (a, -9)).2.2 ≠ -9) : (rdNum lt n (a, -9)).2 = (a, ((a : Nat) : Int)) := by
  by_cases hd : isDg (sgz lt n a)
  · exfalso
    by_cases hd2 : isDg (sgz lt n (a + 1))
    · have e : rdNum lt n (a, -9) = (10 * (lt a - 48) + lt (a + 1) - 48, (a + 2, -9)) := (if_pos rfl).trans ((if_pos hd).trans (if_pos hd2))
      rw [e] at h
      exact h rfl
    · have e : rdNum lt n (a, -9) = (lt a - 48, (a + 1, -9)) := (if_pos rfl).trans ((if_pos hd).trans (if_neg hd2))
      rw [e] at h
      exact h rfl
  · have e : rdNum lt n (a, -9) = (0, (a, ((a : Nat) : Int))) := (if_pos rfl).trans (if_neg hd)
    rw [e]
theorem item_ft {a : Nat} (h : (rdItem lt n (a, -9)).2.2 ≠ -9) : (rdItem lt n (a, -9)).2 = (a, ((a : Nat) : Int)) := by
  by_cases hd : isSm (sgz lt n a)
  · exfalso
    have e : rdItem lt n (a, -9) = (lt a - 97, (a + 1, -9)) := (if_pos rfl).trans (if_pos hd)
    rw [e] at h
    exact h rfl
  · have e : rdItem lt n (a, -9) = (0, (a, ((a : Nat) : Int))) := (if_pos rfl).trans (if_neg hd)
    rw [e]
theorem set_ft {a : Nat} (h : (rdSet lt n (a, -9)).2.2 ≠ -9) : (rdSet lt n (a, -9)).2 = (a, ((a : Nat) : Int)) := by
  by_cases hi : (rdItem lt n (a, -9)).2.2 = -9
  · exfalso
    unfold rdSet at h
    rw [if_pos hi] at h
    exact h rfl
  · unfold rdSet
    rw [if_neg hi]
    exact item_ft hi
theorem word_w (h : (rdWord lt n p).1 ≠ -1) : (rdWord lt n p).2.2 = -9 := if_neg h
theorem word_f (h : (rdWord lt n p).1 = -1) : (rdWord lt n p).2 = ((rdWord lt n p).2.1, ((p : Nat) : Int)) := Prod.ext rfl (if_pos h)
end STG
theorem up_99 {t : Nat → Nat} {k x : Nat} (h : ∀ j, j < k → t j ≤ 99) (hx : x ≤ 99) : ∀ j, j < k + 1 → up t k x j ≤ 99 := by
  intro j hj
  unfold up
  split
  · exact hx
  · exact h j (by omega)
/-- what was told of a statement, against the statement as it stands -/
def StM (w a b c : Int) (od : Nat) (tt : Nat → Nat) : Prop :=
  (w = 0 ∧ a = ((tt 0 : Nat) : Int) ∧ (od = 0 → b = ((tt 1 : Nat) : Int)) ∧ (od ≠ 0 → b = -1) ∧ c = ((tt 2 : Nat) : Int)) ∨ (w = 1 ∧ a = ((tt 0 : Nat) : Int) ∧ od = 0) ∨
  (w = 2 ∧ a = ((tt 0 : Nat) : Int) ∧ b = ((tt 1 : Nat) : Int) ∧ c = ((tt 2 : Nat) : Int) ∧ od = 0) ∨
  (w = 3 ∧ (od = 0 → a = ((tt 0 : Nat) : Int) ∧ tt 0 < 6) ∧ (od ≠ 0 → 6 ≤ a) ∧ b = ((tt 1 : Nat) : Int)) ∨ (w = 4 ∧ a = ((tt 0 : Nat) : Int) ∧ b = ((tt 1 : Nat) : Int) ∧ od = 0)
/-- how many parts a statement has -/
def wln (w : Int) : Nat := if w = 1 then 1 else if w = 3 ∨ w = 4 then 2 else 3
def StP (lt : Nat → Nat) (n p : Nat) (z : Int) (pl od : Nat) (tt : Nat → Nat) : Prop :=
  ((stE lt n p).2 = -9 ∧ z = (rdWord lt n p).1 ∧ pl = (stE lt n p).1 ∧ StM (rdWord lt n p).1 (stA lt n p).1 (stB lt n p).1 (stC lt n p).1 od tt ∧ ∀ j, j < wln (rdWord lt n p).1 → tt j ≤ 99) ∨ ((stE lt n p).2 ≠ -9 ∧ z = -9 ∧ ((pl : Nat) : Int) = (stE lt n p).2)

theorem b01_z0 {c : Prop} [Decidable c] (h : b01 c = 0) : ¬ c := fun z => by rw [b01_t z] at h; omega
theorem b01_z1 {c : Prop} [Decidable c] (h : b01 c ≠ 0) : c := by
  by_cases z : c
  · exact z
  · exact absurd (b01_f z) h
theorem bX7_statement_0_2 {l : Launch} {E : XE} : Snd l E mX7_statement 0 2 (xs [x_aload 0, x_push (.int (nI 0))]) := Snd.cons (snd_aload_n (i := 0) dX7_statement_0 rfl) (Snd.cons (snd_iconst (v := nI 0) dX7_statement_1 (by decide)) Snd.nil)
theorem bX7_statement_5_6 {l : Launch} {E : XE} : Snd l E mX7_statement 5 6 (xs [x_aload 0]) := Snd.cons (snd_aload_n (i := 0) dX7_statement_5 rfl) Snd.nil
theorem bX7_statement_9_11 {l : Launch} {E : XE} : Snd l E mX7_statement 9 11 (xs [x_istore 1, x_iload 1]) := Snd.cons (snd_istore_n (i := 1) dX7_statement_9 rfl (by decide)) (Snd.cons (snd_iload_n (i := 1) dX7_statement_10 rfl) Snd.nil)
theorem bX7_statement_14_16 {l : Launch} {E : XE} : Snd l E mX7_statement 14 16 (xs [x_push (.int (-9))]) := Snd.cons (snd_bipush (v := -9) dX7_statement_14 (by decide)) Snd.nil
set_option maxHeartbeats 4000000 in
set_option maxRecDepth 100000 in
theorem m_X7_statement_f {l : Launch} {E : XE} (S : SaleN) (X : ModN) (K : Option (Nat → Nat)) (hT : X.ty ≤ 96) (hL : ∀ k, k < X.ty → X.lt k ≤ 255) (hp : X.pl ≤ X.ty) (hw : (rdWord X.lt X.ty X.pl).1 = -1) : MetE l E mX7_statement (8) 0 0 [.ref 0] (modW 0 S X K) (fun r w' => ∃ (z : Int) (pl nu od : Nat) (tt : Nat → Nat), r = some (.int (zI z)) ∧ w' = modW 0 S ((X.rf, X.wo, X.ta, X.ow, X.sl, X.sh, X.lt, X.ty, pl, nu, od, tt, X.oo, X.on, X.wn, X.pd, X.li, X.rr, X.rn, X.dr) : ModN) K ∧ od ≤ 1 ∧ StP X.lt X.ty X.pl z pl od tt) := by
  refine MetE.of (by decide +kernel) (Nat.le_of_ble_eq_true rfl) ?_
  refine ev_eq (lv' := [(0, .ref 0)]) (st' := []) (w' := modW 0 S X K) rfl rfl rfl ?_
  refine ev_b bX7_statement_0_2 (lv' := [(0, .ref 0)]) (st' := [.int (nI (0)), .ref 0]) (w2 := modW 0 S X K) rfl ?_
  refine snd_put (ci := 8) (k := 20) (a := 0) dX7_statement_2 rfl inX7 tyX7_ok nmX7 (by decide) tw_934 rfl rfl (Nat.le_of_ble_eq_true rfl) (fun _ => rfl) (fun _ => rfl) ?_
  refine ev_eq (w' := modW 0 S ((X.rf, X.wo, X.ta, X.ow, X.sl, X.sh, X.lt, X.ty, X.pl, X.nu, 0, X.tt, X.oo, X.on, X.wn, X.pd, X.li, X.rr, X.rn, X.dr) : ModN) K) rfl rfl rfl ?_
  refine ev_b bX7_statement_5_6 (lv' := [(0, .ref 0)]) (st' := [.ref 0]) (w2 := modW 0 S ((X.rf, X.wo, X.ta, X.ow, X.sl, X.sh, X.lt, X.ty, X.pl, X.nu, 0, X.tt, X.oo, X.on, X.wn, X.pd, X.li, X.rr, X.rn, X.dr) : ModN) K) rfl ?_
  refine ev_callM (Yc := mX7_word) (st := []) dX7_statement_6 tw_1028 kX7_word (m_X7_word S ((X.rf, X.wo, X.ta, X.ow, X.sl, X.sh, X.lt, X.ty, X.pl, X.nu, 0, X.tt, X.oo, X.on, X.wn, X.pd, X.li, X.rr, X.rn, X.dr) : ModN) K hT hL hp) rfl rfl rfl rfl (by decide) (Nat.le_of_ble_eq_true rfl) (Nat.le_refl _) (Nat.le_refl _) (fun r w' h => by obtain ⟨-, rfl⟩ := h; exact mod_eq) ?_
  rintro _ _ ⟨rfl, rfl⟩
  refine ev_eq (lv' := [(0, .ref 0)]) (st' := [.int (zI ((if (rdWord X.lt X.ty X.pl).1 = -1 then -9 else (rdWord X.lt X.ty X.pl).1)))]) (w' := modW 0 S ((X.rf, X.wo, X.ta, X.ow, X.sl, X.sh, X.lt, X.ty, (if (rdWord X.lt X.ty X.pl).1 = -1 then X.pl else (rdWord X.lt X.ty X.pl).2.1), X.nu, 0, X.tt, X.oo, X.on, X.wn, X.pd, X.li, X.rr, X.rn, X.dr) : ModN) K) rfl rfl rfl ?_
  refine ev_top (y := (zI (-9))) (congrArg zI (show (if (rdWord X.lt X.ty X.pl).1 = -1 then -9 else (rdWord X.lt X.ty X.pl).1) = -9 from by rw [hw]; rfl)) ?_
  refine ev_b bX7_statement_9_11 (lv' := [(1, .int (zI (-9))), (0, .ref 0)]) (st' := [.int (zI (-9))]) (w2 := modW 0 S ((X.rf, X.wo, X.ta, X.ow, X.sl, X.sh, X.lt, X.ty, (if (rdWord X.lt X.ty X.pl).1 = -1 then X.pl else (rdWord X.lt X.ty X.pl).2.1), X.nu, 0, X.tt, X.oo, X.on, X.wn, X.pd, X.li, X.rr, X.rn, X.dr) : ModN) K) rfl ?_
  refine ev_if_ge_z (tgt := 17) (by constructor <;> omega) dX7_statement_11 (by decide) (fun h11 => (by exfalso; omega)) (fun h11 => ?_)
  refine ev_eq (w' := modW 0 S ((X.rf, X.wo, X.ta, X.ow, X.sl, X.sh, X.lt, X.ty, X.pl, X.nu, 0, X.tt, X.oo, X.on, X.wn, X.pd, X.li, X.rr, X.rn, X.dr) : ModN) K) rfl rfl (by rw [hw, if_pos rfl]) ?_
  refine ev_b bX7_statement_14_16 (lv' := [(1, .int (zI (-9))), (0, .ref 0)]) (st' := [.int (-9)]) (w2 := modW 0 S ((X.rf, X.wo, X.ta, X.ow, X.sl, X.sh, X.lt, X.ty, X.pl, X.nu, 0, X.tt, X.oo, X.on, X.wn, X.pd, X.li, X.rr, X.rn, X.dr) : ModN) K) rfl ?_
  exact ev_iret dX7_statement_16 rfl mod_le (Nat.le_refl _) (Nat.le_refl _) ⟨-9, X.pl, X.nu, 0, X.tt, by rfl, rfl, by decide, Or.inr (by have fE : stE X.lt X.ty X.pl = ((rdWord X.lt X.ty X.pl).2.1, ((X.pl : Nat) : Int)) := stg_E (show ((X.pl : Nat) : Int) ≠ -9 by omega) (stg_C (show ((X.pl : Nat) : Int) ≠ -9 by omega) (stg_B (show ((X.pl : Nat) : Int) ≠ -9 by omega) (stg_A (show ((X.pl : Nat) : Int) ≠ -9 by omega) (by rw [word_f hw]; exact sign_sk (show ((X.pl : Nat) : Int) ≠ -9 by omega))))); exact ⟨by rw [fE]; show ((X.pl : Nat) : Int) ≠ -9; omega, rfl, by rw [fE]⟩)⟩
