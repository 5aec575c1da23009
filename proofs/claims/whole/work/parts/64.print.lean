/-! ===== the winners printed, as letters ===== -/
def numL (x : Nat) : List Nat := (if 100 ≤ x then [48 + x / 100] else []) ++ ((if 10 ≤ x then [48 + x / 10 % 10] else []) ++ [48 + x % 10])
def itmL (set : Nat) : Nat → List Nat
  | 0 => []
  | k + 1 => if set.testBit k = true then itmL set k ++ [97 + k] else itmL set k
theorem itmL_s {set k : Nat} : itmL set (k + 1) = if set.testBit k = true then itmL set k ++ [97 + k] else itmL set k := rfl
def bidL (S : SaleN) (b : Nat) : List Nat := numL (S.bd b) ++ ([58] ++ (itmL (S.st b) 6 ++ ([61] ++ numL (S.pr b))))
def winL (S : SaleN) (W : Nat) : Nat → List Nat
  | 0 => []
  | k + 1 => if W.testBit k = true then (if (winL S W k).length = 0 then bidL S k else (winL S W k ++ [59]) ++ bidL S k) else winL S W k
theorem winL_s {S : SaleN} {W k : Nat} : winL S W (k + 1) = if W.testBit k = true then (if (winL S W k).length = 0 then bidL S k else (winL S W k ++ [59]) ++ bidL S k) else winL S W k := rfl
def txtL (S : SaleN) : List Nat := (winL S (winB S 1023) S.ca ++ [47]) ++ numL (winW S 1023)
def prZ (L : List Nat) (i : Nat) : Int := match L[i]? with
  | some m => ((m : Nat) : Int)
  | none => -9
def PrL (R : PrtN) (L : List Nat) : Prop := R.ln = L.length ∧ RowIs R.sg L
theorem prl_put {R : PrtN} {L : List Nat} (h : PrL R L) {x : Nat} : PrL ((up R.sg R.ln x, R.ln + 1) : PrtN) (L ++ [x]) := by
  refine ⟨by show R.ln + 1 = _; rw [h.1, List.length_append]; rfl, fun p q hq => ?_⟩
  show up R.sg R.ln x p = q
  by_cases hp : p = R.ln
  · subst hp
    rw [h.1, List.getElem?_append_right (Nat.le_refl _), Nat.sub_self] at hq
    rw [up_at]
    exact Option.some.inj hq
  · rw [up_ne hp]
    by_cases hl : p < L.length
    · rw [List.getElem?_append_left hl] at hq
      exact h.2 p q hq
    · rw [List.getElem?_append_right (by omega)] at hq
      have : p - L.length < 1 := (List.getElem?_eq_some_iff.mp hq).1
      have := h.1
      omega
theorem num_len (x : Nat) : (numL x).length ≤ 3 := by
  unfold numL
  split <;> split <;> simp
theorem num_len1 {x : Nat} (h : x < 10) : (numL x).length = 1 := by
  unfold numL
  rw [if_neg (by omega), if_neg (by omega)]
  rfl
theorem num_len2 {x : Nat} (h : x < 100) : (numL x).length ≤ 2 := by
  unfold numL
  rw [if_neg (by omega)]
  split <;> simp
theorem itm_len (set : Nat) : ∀ n, (itmL set n).length = popTo set n
  | 0 => rfl
  | n + 1 => by
    rw [itmL_s, popTo_s]
    have ih := itm_len set n
    split
    · rename_i h
      rw [List.length_append, ih, b01_t h]
      rfl
    · rename_i h
      rw [ih, b01_f h]
      rfl
theorem itm_le (set k : Nat) (h : k ≤ 6) : (itmL set k).length ≤ 6 := by
  rw [itm_len]
  exact Nat.le_trans (popTo_le set k) h
theorem bid_len {S : SaleN} (hS : SaleOK S) {b : Nat} (hb : b < S.ca) : (bidL S b).length ≤ 5 + popTo (S.st b) 6 := by
  obtain ⟨h1, h2, h3, h4⟩ := hS.2.2.1 b hb
  have h5 := num_len1 (x := S.bd b) (by omega)
  have h6 := num_len2 (x := S.pr b) (by omega)
  have h7 := itm_len (S.st b) 6
  unfold bidL
  simp only [List.length_append, List.length_cons, List.length_nil]
  omega
theorem win_len {S : SaleN} (hS : SaleOK S) {W : Nat} : ∀ n, n ≤ S.ca → dsj S.st W n = true → (winL S W n).length ≤ 7 * popTo (itTo S.st W n) 6
  | 0, _, _ => Nat.zero_le _
  | n + 1, hn, hd => by
    have ih := win_len hS (W := W) n (by omega) (dsj_mono (n + 1) (Nat.le_succ n) hd)
    rw [winL_s, itTo_s]
    by_cases hb : W.testBit n = true
    · rw [if_pos hb, if_pos hb]
      rw [dsj_s, Bool.and_eq_true, hb] at hd
      have h0 : itTo S.st W n &&& S.st n = 0 := by simpa using hd.2
      rw [pop_or h0]
      have h1 := bid_len hS (show n < S.ca by omega)
      obtain ⟨-, k1, k2, -⟩ := hS.2.2.1 n (by omega)
      have h2 := pop_pos 6 k2 k1
      split
      · omega
      · simp only [List.length_append, List.length_cons, List.length_nil]
        omega
    · rw [if_neg hb, if_neg hb]
      exact ih
theorem win_le42 {S : SaleN} (hS : SaleOK S) {W n : Nat} (hn : n ≤ S.ca) (hd : dsj S.st W S.ca = true) : (winL S W n).length ≤ 42 := by
  have h1 := win_len hS n hn (dsj_mono S.ca hn hd)
  have h2 := popTo_le (itTo S.st W n) 6
  omega
theorem txt_len {S : SaleN} (hS : SaleOK S) : (txtL S).length ≤ 46 := by
  have h1 := win_le42 hS (Nat.le_refl _) (out_dsj (win_spec hS 1023).1)
  have h2 := num_len (winW S 1023)
  unfold txtL
  simp only [List.length_append, List.length_cons, List.length_nil]
  omega

theorem bX2_put_0_6 {l : Launch} {E : XE} : Snd l E mX2_put 0 6 (xs [x_aload 0, x_get 3 1, x_push (.int (nI 64))]) := Snd.cons (snd_aload_n (i := 0) dX2_put_0 rfl) (Snd.cons (snd_get (ci := 3) (k := 1) dX2_put_1 rfl inX2 (by decide) tw_200) (Snd.cons (snd_bipush (v := nI 64) dX2_put_4 (by decide)) Snd.nil))
theorem bX2_put_9_18 {l : Launch} {E : XE} : Snd l E mX2_put 9 18 (xs [x_aload 0, x_get 3 0, x_aload 0, x_get 3 1, x_iload 1]) := Snd.cons (snd_aload_n (i := 0) dX2_put_9 rfl) (Snd.cons (snd_get (ci := 3) (k := 0) dX2_put_10 rfl inX2 (by decide) tw_199) (Snd.cons (snd_aload_n (i := 0) dX2_put_13 rfl) (Snd.cons (snd_get (ci := 3) (k := 1) dX2_put_14 rfl inX2 (by decide) tw_200) (Snd.cons (snd_iload_n (i := 1) dX2_put_17 rfl) Snd.nil))))
theorem bX2_put_19_25 {l : Launch} {E : XE} : Snd l E mX2_put 19 25 (xs [x_aload 0, x_dup, x_get 3 1, x_push (.int (nI 1))]) := Snd.cons (snd_aload_n (i := 0) dX2_put_19 rfl) (Snd.cons (snd_dup dX2_put_20) (Snd.cons (snd_get (ci := 3) (k := 1) dX2_put_21 rfl inX2 (by decide) tw_200) (Snd.cons (snd_iconst (v := nI 1) dX2_put_24 (by decide)) Snd.nil)))
theorem bX2_put_26_29 {l : Launch} {E : XE} : Snd l E mX2_put 26 29 (xs [x_puti 3 1]) := Snd.cons (snd_puti (ci := 3) (k := 1) dX2_put_26 rfl inX2 tyX2_ok nmX2 (by decide) tw_200 rfl rfl) Snd.nil
set_option maxHeartbeats 4000000 in
set_option maxRecDepth 100000 in
theorem m_X2_put {l : Launch} {E : XE} (R : PrtN) (L : List Nat) (x : Nat) (h : PrL R L) (hl : L.length < 64) : MetE l E mX2_put (0) 0 0 [.ref 0, .int (nI (x))] (prtW 0 R) (fun r w' => r = none ∧ ∃ R' : PrtN, w' = prtW 0 R' ∧ PrL R' (L ++ [x])) := by
  refine MetE.of (by decide +kernel) (Nat.le_of_ble_eq_true rfl) ?_
  have hln := h.1
  refine ev_eq (lv' := [(0, .ref 0), (1, .int (nI (x)))]) (st' := []) (w' := prtW 0 R) rfl rfl rfl ?_
  refine ev_b bX2_put_0_6 (lv' := [(0, .ref 0), (1, .int (nI (x)))]) (st' := [.int (nI (64)), .int (nI (R.ln))]) (w2 := prtW 0 R) rfl ?_
  refine ev_icmp_ge_n (tgt := 29) (by omega) (by decide) dX2_put_6 (by decide) (fun h6 => (by exfalso; omega)) (fun h6 => ?_)
  refine ev_b bX2_put_9_18 (lv' := [(0, .ref 0), (1, .int (nI (x)))]) (st' := [.int (nI (x)), .int (nI (R.ln)), .ref 1]) (w2 := prtW 0 R) rfl ?_
  refine ev_iast_n (f := R.sg) dX2_put_18 rfl (by omega) (by decide) ?_
  refine ev_eq (w' := prtW 0 ((up R.sg R.ln x, R.ln) : PrtN)) rfl rfl rfl ?_
  refine ev_b bX2_put_19_25 (lv' := [(0, .ref 0), (1, .int (nI (x)))]) (st' := [.int (nI (1)), .int (nI (R.ln)), .ref 0]) (w2 := prtW 0 ((up R.sg R.ln x, R.ln) : PrtN)) rfl ?_
  refine ev_iadd_n dX2_put_25 ?_
  refine ev_b bX2_put_26_29 (lv' := [(0, .ref 0), (1, .int (nI (x)))]) (st' := []) (w2 := prtW 0 ((up R.sg R.ln x, R.ln + 1) : PrtN)) rfl ?_
  exact ev_vret dX2_put_29 rfl (Nat.le_of_ble_eq_true rfl) (Nat.le_refl _) (Nat.le_refl _) ⟨rfl, _, rfl, prl_put h⟩
theorem bX2_putNumber_0_3 {l : Launch} {E : XE} : Snd l E mX2_putNumber 0 3 (xs [x_iload 1, x_push (.int (nI 100))]) := Snd.cons (snd_iload_n (i := 1) dX2_putNumber_0 rfl) (Snd.cons (snd_bipush (v := nI 100) dX2_putNumber_1 (by decide)) Snd.nil)
theorem bX2_putNumber_17_20 {l : Launch} {E : XE} : Snd l E mX2_putNumber 17 20 (xs [x_iload 1, x_push (.int (nI 10))]) := Snd.cons (snd_iload_n (i := 1) dX2_putNumber_17 rfl) (Snd.cons (snd_bipush (v := nI 10) dX2_putNumber_18 (by decide)) Snd.nil)
theorem bX2_putNumber_37_43 {l : Launch} {E : XE} : Snd l E mX2_putNumber 37 43 (xs [x_aload 0, x_push (.int (nI 48)), x_iload 1, x_push (.int (nI 10))]) := Snd.cons (snd_aload_n (i := 0) dX2_putNumber_37 rfl) (Snd.cons (snd_bipush (v := nI 48) dX2_putNumber_38 (by decide)) (Snd.cons (snd_iload_n (i := 1) dX2_putNumber_40 rfl) (Snd.cons (snd_bipush (v := nI 10) dX2_putNumber_41 (by decide)) Snd.nil)))
theorem bX2_putNumber_23_29 {l : Launch} {E : XE} : Snd l E mX2_putNumber 23 29 (xs [x_aload 0, x_push (.int (nI 48)), x_iload 1, x_push (.int (nI 10))]) := Snd.cons (snd_aload_n (i := 0) dX2_putNumber_23 rfl) (Snd.cons (snd_bipush (v := nI 48) dX2_putNumber_24 (by decide)) (Snd.cons (snd_iload_n (i := 1) dX2_putNumber_26 rfl) (Snd.cons (snd_bipush (v := nI 10) dX2_putNumber_27 (by decide)) Snd.nil)))
theorem bX2_putNumber_30_32 {l : Launch} {E : XE} : Snd l E mX2_putNumber 30 32 (xs [x_push (.int (nI 10))]) := Snd.cons (snd_bipush (v := nI 10) dX2_putNumber_30 (by decide)) Snd.nil
theorem bX2_putNumber_6_12 {l : Launch} {E : XE} : Snd l E mX2_putNumber 6 12 (xs [x_aload 0, x_push (.int (nI 48)), x_iload 1, x_push (.int (nI 100))]) := Snd.cons (snd_aload_n (i := 0) dX2_putNumber_6 rfl) (Snd.cons (snd_bipush (v := nI 48) dX2_putNumber_7 (by decide)) (Snd.cons (snd_iload_n (i := 1) dX2_putNumber_9 rfl) (Snd.cons (snd_bipush (v := nI 100) dX2_putNumber_10 (by decide)) Snd.nil)))
set_option maxHeartbeats 4000000 in
set_option maxRecDepth 100000 in
theorem m_X2_putNumber {l : Launch} {E : XE} (R : PrtN) (L : List Nat) (x : Nat) (hR : PrL R L) (hl : L.length + 3 ≤ 64) (hx : x < 1000) : MetE l E mX2_putNumber (1) 0 0 [.ref 0, .int (nI (x))] (prtW 0 R) (fun r w' => r = none ∧ ∃ R' : PrtN, w' = prtW 0 R' ∧ PrL R' (L ++ numL x)) := by
  refine MetE.of (by decide +kernel) (Nat.le_of_ble_eq_true rfl) ?_
  refine ev_eq (lv' := [(0, .ref 0), (1, .int (nI (x)))]) (st' := []) (w' := prtW 0 R) rfl rfl rfl ?_
  refine ev_b bX2_putNumber_0_3 (lv' := [(0, .ref 0), (1, .int (nI (x)))]) (st' := [.int (nI (100)), .int (nI (x))]) (w2 := prtW 0 R) rfl ?_
  refine ev_icmp_lt_n (tgt := 17) (by omega) (by decide) dX2_putNumber_3 (by decide) (fun h3 => ?_) (fun h3 => ?_)
  · skip
    refine ev_b bX2_putNumber_17_20 (lv' := [(0, .ref 0), (1, .int (nI (x)))]) (st' := [.int (nI (10)), .int (nI (x))]) (w2 := prtW 0 R) rfl ?_
    refine ev_icmp_lt_n (tgt := 37) (by omega) (by decide) dX2_putNumber_20 (by decide) (fun h20 => ?_) (fun h20 => ?_)
    · skip
      refine ev_b bX2_putNumber_37_43 (lv' := [(0, .ref 0), (1, .int (nI (x)))]) (st' := [.int (nI (10)), .int (nI (x)), .int (nI (48)), .ref 0]) (w2 := prtW 0 R) rfl ?_
      refine ev_irem_n (by omega) (by decide) (by omega) dX2_putNumber_43 ?_
      refine ev_iadd_n dX2_putNumber_44 ?_
      refine ev_callV (Yc := mX2_put) [0, 1] dX2_putNumber_45 tw_831 kX2_put (m_X2_put R _ (48 + x % 10) hR (by first | omega | (simp only [List.length_append, List.length_cons, List.length_nil]; omega))) rfl (st := []) rfl rfl rfl (by decide) rfl (by decide) (Nat.le_of_ble_eq_true rfl) (Nat.le_refl _) (Nat.le_refl _) (fun r w' h => by obtain ⟨-, R', rfl, -⟩ := h; exact Nat.le_of_ble_eq_true rfl) ?_
      rintro _ _ ⟨rfl, R45, rfl, hR45⟩
      refine ev_eq (lv' := [(0, .ref 0), (1, .int (nI (x)))]) (st' := []) (w' := prtW 0 R45) rfl rfl rfl ?_
      exact ev_vret dX2_putNumber_48 rfl (Nat.le_of_ble_eq_true rfl) (Nat.le_refl _) (Nat.le_refl _) (by refine ⟨rfl, R45, rfl, ?_⟩; unfold numL; (first | rw [if_neg (Nat.not_le.mpr h3)] | rw [if_pos (Nat.not_lt.mp h3)]); (first | rw [if_neg (Nat.not_le.mpr h20)] | rw [if_pos (Nat.not_lt.mp h20)]); simpa using hR45)
    · skip
      refine ev_b bX2_putNumber_23_29 (lv' := [(0, .ref 0), (1, .int (nI (x)))]) (st' := [.int (nI (10)), .int (nI (x)), .int (nI (48)), .ref 0]) (w2 := prtW 0 R) rfl ?_
      refine ev_idiv_n (by omega) (by decide) (by omega) dX2_putNumber_29 ?_
      refine ev_b bX2_putNumber_30_32 (lv' := [(0, .ref 0), (1, .int (nI (x)))]) (st' := [.int (nI (10)), .int (nI (x / 10)), .int (nI (48)), .ref 0]) (w2 := prtW 0 R) rfl ?_
      refine ev_irem_n (by omega) (by decide) (by omega) dX2_putNumber_32 ?_
      refine ev_iadd_n dX2_putNumber_33 ?_
      refine ev_callV (Yc := mX2_put) [0, 1] dX2_putNumber_34 tw_831 kX2_put (m_X2_put R _ (48 + x / 10 % 10) hR (by first | omega | (simp only [List.length_append, List.length_cons, List.length_nil]; omega))) rfl (st := []) rfl rfl rfl (by decide) rfl (by decide) (Nat.le_of_ble_eq_true rfl) (Nat.le_refl _) (Nat.le_refl _) (fun r w' h => by obtain ⟨-, R', rfl, -⟩ := h; exact Nat.le_of_ble_eq_true rfl) ?_
      rintro _ _ ⟨rfl, R34, rfl, hR34⟩
      refine ev_eq (lv' := [(0, .ref 0), (1, .int (nI (x)))]) (st' := []) (w' := prtW 0 R34) rfl rfl rfl ?_
      refine ev_b bX2_putNumber_37_43 (lv' := [(0, .ref 0), (1, .int (nI (x)))]) (st' := [.int (nI (10)), .int (nI (x)), .int (nI (48)), .ref 0]) (w2 := prtW 0 R34) rfl ?_
      refine ev_irem_n (by omega) (by decide) (by omega) dX2_putNumber_43 ?_
      refine ev_iadd_n dX2_putNumber_44 ?_
      refine ev_callV (Yc := mX2_put) [0, 1] dX2_putNumber_45 tw_831 kX2_put (m_X2_put R34 _ (48 + x % 10) hR34 (by first | omega | (simp only [List.length_append, List.length_cons, List.length_nil]; omega))) rfl (st := []) rfl rfl rfl (by decide) rfl (by decide) (Nat.le_of_ble_eq_true rfl) (Nat.le_refl _) (Nat.le_refl _) (fun r w' h => by obtain ⟨-, R', rfl, -⟩ := h; exact Nat.le_of_ble_eq_true rfl) ?_
      rintro _ _ ⟨rfl, R45, rfl, hR45⟩
      refine ev_eq (lv' := [(0, .ref 0), (1, .int (nI (x)))]) (st' := []) (w' := prtW 0 R45) rfl rfl rfl ?_
      exact ev_vret dX2_putNumber_48 rfl (Nat.le_of_ble_eq_true rfl) (Nat.le_refl _) (Nat.le_refl _) (by refine ⟨rfl, R45, rfl, ?_⟩; unfold numL; (first | rw [if_neg (Nat.not_le.mpr h3)] | rw [if_pos (Nat.not_lt.mp h3)]); (first | rw [if_neg (Nat.not_le.mpr h20)] | rw [if_pos (Nat.not_lt.mp h20)]); simpa using hR45)
  · skip
    refine ev_b bX2_putNumber_6_12 (lv' := [(0, .ref 0), (1, .int (nI (x)))]) (st' := [.int (nI (100)), .int (nI (x)), .int (nI (48)), .ref 0]) (w2 := prtW 0 R) rfl ?_
    refine ev_idiv_n (by omega) (by decide) (by omega) dX2_putNumber_12 ?_
    refine ev_iadd_n dX2_putNumber_13 ?_
    refine ev_callV (Yc := mX2_put) [0, 1] dX2_putNumber_14 tw_831 kX2_put (m_X2_put R _ (48 + x / 100) hR (by first | omega | (simp only [List.length_append, List.length_cons, List.length_nil]; omega))) rfl (st := []) rfl rfl rfl (by decide) rfl (by decide) (Nat.le_of_ble_eq_true rfl) (Nat.le_refl _) (Nat.le_refl _) (fun r w' h => by obtain ⟨-, R', rfl, -⟩ := h; exact Nat.le_of_ble_eq_true rfl) ?_
    rintro _ _ ⟨rfl, R14, rfl, hR14⟩
    refine ev_eq (lv' := [(0, .ref 0), (1, .int (nI (x)))]) (st' := []) (w' := prtW 0 R14) rfl rfl rfl ?_
    refine ev_b bX2_putNumber_17_20 (lv' := [(0, .ref 0), (1, .int (nI (x)))]) (st' := [.int (nI (10)), .int (nI (x))]) (w2 := prtW 0 R14) rfl ?_
    refine ev_icmp_lt_n (tgt := 37) (by omega) (by decide) dX2_putNumber_20 (by decide) (fun h20 => ?_) (fun h20 => ?_)
    · skip
      refine ev_b bX2_putNumber_37_43 (lv' := [(0, .ref 0), (1, .int (nI (x)))]) (st' := [.int (nI (10)), .int (nI (x)), .int (nI (48)), .ref 0]) (w2 := prtW 0 R14) rfl ?_
      refine ev_irem_n (by omega) (by decide) (by omega) dX2_putNumber_43 ?_
      refine ev_iadd_n dX2_putNumber_44 ?_
      refine ev_callV (Yc := mX2_put) [0, 1] dX2_putNumber_45 tw_831 kX2_put (m_X2_put R14 _ (48 + x % 10) hR14 (by first | omega | (simp only [List.length_append, List.length_cons, List.length_nil]; omega))) rfl (st := []) rfl rfl rfl (by decide) rfl (by decide) (Nat.le_of_ble_eq_true rfl) (Nat.le_refl _) (Nat.le_refl _) (fun r w' h => by obtain ⟨-, R', rfl, -⟩ := h; exact Nat.le_of_ble_eq_true rfl) ?_
      rintro _ _ ⟨rfl, R45, rfl, hR45⟩
      refine ev_eq (lv' := [(0, .ref 0), (1, .int (nI (x)))]) (st' := []) (w' := prtW 0 R45) rfl rfl rfl ?_
      exact ev_vret dX2_putNumber_48 rfl (Nat.le_of_ble_eq_true rfl) (Nat.le_refl _) (Nat.le_refl _) (by refine ⟨rfl, R45, rfl, ?_⟩; unfold numL; (first | rw [if_neg (Nat.not_le.mpr h3)] | rw [if_pos (Nat.not_lt.mp h3)]); (first | rw [if_neg (Nat.not_le.mpr h20)] | rw [if_pos (Nat.not_lt.mp h20)]); simpa using hR45)
    · skip
      refine ev_b bX2_putNumber_23_29 (lv' := [(0, .ref 0), (1, .int (nI (x)))]) (st' := [.int (nI (10)), .int (nI (x)), .int (nI (48)), .ref 0]) (w2 := prtW 0 R14) rfl ?_
      refine ev_idiv_n (by omega) (by decide) (by omega) dX2_putNumber_29 ?_
      refine ev_b bX2_putNumber_30_32 (lv' := [(0, .ref 0), (1, .int (nI (x)))]) (st' := [.int (nI (10)), .int (nI (x / 10)), .int (nI (48)), .ref 0]) (w2 := prtW 0 R14) rfl ?_
      refine ev_irem_n (by omega) (by decide) (by omega) dX2_putNumber_32 ?_
      refine ev_iadd_n dX2_putNumber_33 ?_
      refine ev_callV (Yc := mX2_put) [0, 1] dX2_putNumber_34 tw_831 kX2_put (m_X2_put R14 _ (48 + x / 10 % 10) hR14 (by first | omega | (simp only [List.length_append, List.length_cons, List.length_nil]; omega))) rfl (st := []) rfl rfl rfl (by decide) rfl (by decide) (Nat.le_of_ble_eq_true rfl) (Nat.le_refl _) (Nat.le_refl _) (fun r w' h => by obtain ⟨-, R', rfl, -⟩ := h; exact Nat.le_of_ble_eq_true rfl) ?_
      rintro _ _ ⟨rfl, R34, rfl, hR34⟩
      refine ev_eq (lv' := [(0, .ref 0), (1, .int (nI (x)))]) (st' := []) (w' := prtW 0 R34) rfl rfl rfl ?_
      refine ev_b bX2_putNumber_37_43 (lv' := [(0, .ref 0), (1, .int (nI (x)))]) (st' := [.int (nI (10)), .int (nI (x)), .int (nI (48)), .ref 0]) (w2 := prtW 0 R34) rfl ?_
      refine ev_irem_n (by omega) (by decide) (by omega) dX2_putNumber_43 ?_
      refine ev_iadd_n dX2_putNumber_44 ?_
      refine ev_callV (Yc := mX2_put) [0, 1] dX2_putNumber_45 tw_831 kX2_put (m_X2_put R34 _ (48 + x % 10) hR34 (by first | omega | (simp only [List.length_append, List.length_cons, List.length_nil]; omega))) rfl (st := []) rfl rfl rfl (by decide) rfl (by decide) (Nat.le_of_ble_eq_true rfl) (Nat.le_refl _) (Nat.le_refl _) (fun r w' h => by obtain ⟨-, R', rfl, -⟩ := h; exact Nat.le_of_ble_eq_true rfl) ?_
      rintro _ _ ⟨rfl, R45, rfl, hR45⟩
      refine ev_eq (lv' := [(0, .ref 0), (1, .int (nI (x)))]) (st' := []) (w' := prtW 0 R45) rfl rfl rfl ?_
      exact ev_vret dX2_putNumber_48 rfl (Nat.le_of_ble_eq_true rfl) (Nat.le_refl _) (Nat.le_refl _) (by refine ⟨rfl, R45, rfl, ?_⟩; unfold numL; (first | rw [if_neg (Nat.not_le.mpr h3)] | rw [if_pos (Nat.not_lt.mp h3)]); (first | rw [if_neg (Nat.not_le.mpr h20)] | rw [if_pos (Nat.not_lt.mp h20)]); simpa using hR45)
theorem hw_Prt0_Sale2__2 {x0 : PrtN} {x1 : SaleN} : ([2, 3, 4, 5, 6, 7, 8, 9] : List Nat).map (fun i => (prtW 0 x0 ++ saleW 2 x1)[i]?) = (saleW 0 x1).map (fun e => some (xr ([2, 3, 4, 5, 6, 7, 8, 9] : List Nat) (prtW 0 x0 ++ saleW 2 x1).length e)) := rfl
theorem xp_Prt0_Sale2__2 {x0 : PrtN} {x1 : SaleN} {y0 : SaleN} : xput ([2, 3, 4, 5, 6, 7, 8, 9] : List Nat) (prtW 0 x0 ++ saleW 2 x1).length (prtW 0 x0 ++ saleW 2 x1) ([2, 3, 4, 5, 6, 7, 8, 9] : List Nat) (saleW 0 y0) = prtW 0 x0 ++ saleW 2 y0 := by
  have e0 : xput ([2, 3, 4, 5, 6, 7, 8, 9] : List Nat) (prtW 0 x0 ++ saleW 2 x1).length (prtW 0 x0 ++ saleW 2 x1) ([2, 3, 4, 5, 6, 7, 8, 9] : List Nat) (saleW 0 y0) = prtW 0 x0 ++ saleW 2 y0 := xput_blk (prtW 0 x0) (saleW 2 x1) ([]) (saleW 0 y0) rfl
  exact e0
theorem hw_Prt0_Sale2__0 {x0 : PrtN} {x1 : SaleN} : ([0, 1] : List Nat).map (fun i => (prtW 0 x0 ++ saleW 2 x1)[i]?) = (prtW 0 x0).map (fun e => some (xr ([0, 1] : List Nat) (prtW 0 x0 ++ saleW 2 x1).length e)) := rfl
theorem xp_Prt0_Sale2__0 {x0 : PrtN} {x1 : SaleN} {y0 : PrtN} : xput ([0, 1] : List Nat) (prtW 0 x0 ++ saleW 2 x1).length (prtW 0 x0 ++ saleW 2 x1) ([0, 1] : List Nat) (prtW 0 y0) = prtW 0 y0 ++ saleW 2 x1 := by
  have e0 : xput ([0, 1] : List Nat) (prtW 0 x0 ++ saleW 2 x1).length (prtW 0 x0 ++ saleW 2 x1) ([0, 1] : List Nat) (prtW 0 y0) = prtW 0 y0 ++ saleW 2 x1 := xput_blk ([]) (prtW 0 x0) (saleW 2 x1) (prtW 0 y0) rfl
  exact e0
theorem bX2_putBid_0_3 {l : Launch} {E : XE} : Snd l E mX2_putBid 0 3 (xs [x_aload 0, x_aload 1, x_iload 2]) := Snd.cons (snd_aload_n (i := 0) dX2_putBid_0 rfl) (Snd.cons (snd_aload_n (i := 1) dX2_putBid_1 rfl) (Snd.cons (snd_iload_n (i := 2) dX2_putBid_2 rfl) Snd.nil))
theorem bX2_putBid_9_12 {l : Launch} {E : XE} : Snd l E mX2_putBid 9 12 (xs [x_aload 0, x_push (.int (nI 58))]) := Snd.cons (snd_aload_n (i := 0) dX2_putBid_9 rfl) (Snd.cons (snd_bipush (v := nI 58) dX2_putBid_10 (by decide)) Snd.nil)
theorem bX2_putBid_15_17 {l : Launch} {E : XE} : Snd l E mX2_putBid 15 17 (xs [x_push (.int (nI 0)), x_istore 3]) := Snd.cons (snd_iconst (v := nI 0) dX2_putBid_15 (by decide)) (Snd.cons (snd_istore_n (i := 3) dX2_putBid_16 rfl (by decide)) Snd.nil)
theorem bX2_putBid_17_20 {l : Launch} {E : XE} : Snd l E mX2_putBid 17 20 (xs [x_iload 3, x_push (.int (nI 6))]) := Snd.cons (snd_iload_n (i := 3) dX2_putBid_17 rfl) (Snd.cons (snd_bipush (v := nI 6) dX2_putBid_18 (by decide)) Snd.nil)
theorem bX2_putBid_50_53 {l : Launch} {E : XE} : Snd l E mX2_putBid 50 53 (xs [x_aload 0, x_push (.int (nI 61))]) := Snd.cons (snd_aload_n (i := 0) dX2_putBid_50 rfl) (Snd.cons (snd_bipush (v := nI 61) dX2_putBid_51 (by decide)) Snd.nil)
theorem bX2_putBid_56_59 {l : Launch} {E : XE} : Snd l E mX2_putBid 56 59 (xs [x_aload 0, x_aload 1, x_iload 2]) := Snd.cons (snd_aload_n (i := 0) dX2_putBid_56 rfl) (Snd.cons (snd_aload_n (i := 1) dX2_putBid_57 rfl) (Snd.cons (snd_iload_n (i := 2) dX2_putBid_58 rfl) Snd.nil))
theorem bX2_putBid_23_25 {l : Launch} {E : XE} : Snd l E mX2_putBid 23 25 (xs [x_aload 1, x_iload 2]) := Snd.cons (snd_aload_n (i := 1) dX2_putBid_23 rfl) (Snd.cons (snd_iload_n (i := 2) dX2_putBid_24 rfl) Snd.nil)
theorem bX2_putBid_28_29 {l : Launch} {E : XE} : Snd l E mX2_putBid 28 29 (xs [x_iload 3]) := Snd.cons (snd_iload_n (i := 3) dX2_putBid_28 rfl) Snd.nil
theorem bX2_putBid_32_33 {l : Launch} {E : XE} : Snd l E mX2_putBid 32 33 (xs [x_push (.int (nI 1))]) := Snd.cons (snd_iconst (v := nI 1) dX2_putBid_32 (by decide)) Snd.nil
theorem bX2_putBid_47_17 {l : Launch} {E : XE} : Snd l E mX2_putBid 47 17 (xs [x_id]) := Snd.cons (snd_goto (tgt := 17) dX2_putBid_47 (by decide)) Snd.nil
theorem bX2_putBid_36_40 {l : Launch} {E : XE} : Snd l E mX2_putBid 36 40 (xs [x_aload 0, x_push (.int (nI 97)), x_iload 3]) := Snd.cons (snd_aload_n (i := 0) dX2_putBid_36 rfl) (Snd.cons (snd_bipush (v := nI 97) dX2_putBid_37 (by decide)) (Snd.cons (snd_iload_n (i := 3) dX2_putBid_39 rfl) Snd.nil))
set_option maxHeartbeats 4000000 in
set_option maxRecDepth 100000 in
theorem m_X2_putBid {l : Launch} {E : XE} (R : PrtN) (S : SaleN) (L : List Nat) (b : Nat) (hR : PrL R L) (hl : L.length + 14 ≤ 64) (hS : SaleOK S) (hb : b < S.ca) : MetE l E mX2_putBid (2) 0 0 [.ref 0, .ref 2, .int (nI (b))] (prtW 0 R ++ saleW 2 S) (fun r w' => r = none ∧ ∃ R' : PrtN, w' = prtW 0 R' ++ saleW 2 S ∧ PrL R' (L ++ bidL S b)) := by
  refine MetE.of (by decide +kernel) (Nat.le_of_ble_eq_true rfl) ?_
  have hca := hS.1
  obtain ⟨hbd, hst1, hst2, hpr⟩ := hS.2.2.1 b hb
  refine ev_eq (lv' := [(0, .ref 0), (1, .ref 2), (2, .int (nI (b)))]) (st' := []) (w' := prtW 0 R ++ saleW 2 S) rfl rfl rfl ?_
  refine ev_b bX2_putBid_0_3 (lv' := [(0, .ref 0), (1, .ref 2), (2, .int (nI (b)))]) (st' := [.int (nI (b)), .ref 2, .ref 0]) (w2 := prtW 0 R ++ saleW 2 S) rfl ?_
  refine ev_callVN (Yc := mX3_bidderOf) [2, 3, 4, 5, 6, 7, 8, 9] dX2_putBid_3 tn_839 kX3_bidderOf (m_X3_bidderOf S b hS hb) rfl (st := [.ref 0]) rfl rfl rfl (by decide) hw_Prt0_Sale2__2 (by decide) (Nat.le_of_ble_eq_true rfl) (Nat.le_refl _) (Nat.le_refl _) (fun r w' h => by obtain ⟨-, rfl⟩ := h; exact Nat.le_of_ble_eq_true rfl) ?_
  rintro _ _ ⟨rfl, rfl⟩
  refine ev_eq (lv' := [(0, .ref 0), (1, .ref 2), (2, .int (nI (b)))]) (st' := [.int (nI (S.bd b)), .ref 0]) (w' := prtW 0 R ++ saleW 2 S) rfl rfl xp_Prt0_Sale2__2 ?_
  refine ev_callV (Yc := mX2_putNumber) [0, 1] dX2_putBid_6 tw_840 kX2_putNumber (m_X2_putNumber R _ (S.bd b) hR (by have h1 := num_len1 (x := S.bd b) (by omega); have h2 := itm_le (S.st b) 6 (Nat.le_refl _); have h3 := num_len2 (x := S.pr b) (by omega); first | omega | (simp only [List.length_append, List.length_cons, List.length_nil]; omega)) (by omega)) rfl (st := []) rfl rfl rfl (by decide) hw_Prt0_Sale2__0 (by decide) (Nat.le_of_ble_eq_true rfl) (Nat.le_refl _) (Nat.le_refl _) (fun r w' h => by obtain ⟨-, R', rfl, -⟩ := h; exact Nat.le_of_ble_eq_true rfl) ?_
  rintro _ _ ⟨rfl, R6, rfl, hR6⟩
  refine ev_eq (lv' := [(0, .ref 0), (1, .ref 2), (2, .int (nI (b)))]) (st' := []) (w' := prtW 0 R6 ++ saleW 2 S) rfl rfl xp_Prt0_Sale2__0 ?_
  refine ev_b bX2_putBid_9_12 (lv' := [(0, .ref 0), (1, .ref 2), (2, .int (nI (b)))]) (st' := [.int (nI (58)), .ref 0]) (w2 := prtW 0 R6 ++ saleW 2 S) rfl ?_
  refine ev_callV (Yc := mX2_put) [0, 1] dX2_putBid_12 tw_831 kX2_put (m_X2_put R6 _ 58 hR6 (by have h1 := num_len1 (x := S.bd b) (by omega); have h2 := itm_le (S.st b) 6 (Nat.le_refl _); have h3 := num_len2 (x := S.pr b) (by omega); first | omega | (simp only [List.length_append, List.length_cons, List.length_nil]; omega))) rfl (st := []) rfl rfl rfl (by decide) hw_Prt0_Sale2__0 (by decide) (Nat.le_of_ble_eq_true rfl) (Nat.le_refl _) (Nat.le_refl _) (fun r w' h => by obtain ⟨-, R', rfl, -⟩ := h; exact Nat.le_of_ble_eq_true rfl) ?_
  rintro _ _ ⟨rfl, R12, rfl, hR12⟩
  refine ev_eq (lv' := [(0, .ref 0), (1, .ref 2), (2, .int (nI (b)))]) (st' := []) (w' := prtW 0 R12 ++ saleW 2 S) rfl rfl xp_Prt0_Sale2__0 ?_
  refine ev_b bX2_putBid_15_17 (lv' := [(3, .int (nI (0))), (0, .ref 0), (1, .ref 2), (2, .int (nI (b)))]) (st' := []) (w2 := prtW 0 R12 ++ saleW 2 S) rfl ?_
  have L17 : ∀ (j_ k : Nat), k + j_ = 6 → ∀ (Q1 : PrtN), (PrL Q1 (((L ++ numL (S.bd b)) ++ [58]) ++ itmL (S.st b) k)) → Ev l E mX2_putBid (2) 0 0 (prtW 0 R ++ saleW 2 S) (fun r w' => r = none ∧ ∃ R' : PrtN, w' = prtW 0 R' ++ saleW 2 S ∧ PrL R' (L ++ bidL S b)) 0 0 17 [(3, .int (nI (k))), (0, .ref 0), (1, .ref 2), (2, .int (nI (b)))] [] (prtW 0 Q1 ++ saleW 2 S) := by
    intro j_
    induction j_ with
    | zero =>
      intro k hk17 Q1 hinv17
      replace hk17 : k = 6 := hk17
      subst hk17
      have hQ1 := hinv17
      refine ev_b bX2_putBid_17_20 (lv' := [(3, .int (nI (6))), (0, .ref 0), (1, .ref 2), (2, .int (nI (b)))]) (st' := [.int (nI (6)), .int (nI (6))]) (w2 := prtW 0 Q1 ++ saleW 2 S) rfl ?_
      refine ev_icmp_ge_n (tgt := 50) (by decide) (by decide) dX2_putBid_20 (by decide) (fun h20 => ?_) (fun h20 => (by exfalso; omega))
      refine ev_b bX2_putBid_50_53 (lv' := [(3, .int (nI (6))), (0, .ref 0), (1, .ref 2), (2, .int (nI (b)))]) (st' := [.int (nI (61)), .ref 0]) (w2 := prtW 0 Q1 ++ saleW 2 S) rfl ?_
      refine ev_callV (Yc := mX2_put) [0, 1] dX2_putBid_53 tw_831 kX2_put (m_X2_put Q1 _ 61 hQ1 (by have h1 := num_len1 (x := S.bd b) (by omega); have h2 := itm_le (S.st b) 6 (Nat.le_refl _); have h3 := num_len2 (x := S.pr b) (by omega); first | omega | (simp only [List.length_append, List.length_cons, List.length_nil]; omega))) rfl (st := []) rfl rfl rfl (by decide) hw_Prt0_Sale2__0 (by decide) (Nat.le_of_ble_eq_true rfl) (Nat.le_refl _) (Nat.le_refl _) (fun r w' h => by obtain ⟨-, R', rfl, -⟩ := h; exact Nat.le_of_ble_eq_true rfl) ?_
      rintro _ _ ⟨rfl, R53, rfl, hR53⟩
      refine ev_eq (lv' := [(3, .int (nI (6))), (0, .ref 0), (1, .ref 2), (2, .int (nI (b)))]) (st' := []) (w' := prtW 0 R53 ++ saleW 2 S) rfl rfl xp_Prt0_Sale2__0 ?_
      refine ev_b bX2_putBid_56_59 (lv' := [(3, .int (nI (6))), (0, .ref 0), (1, .ref 2), (2, .int (nI (b)))]) (st' := [.int (nI (b)), .ref 2, .ref 0]) (w2 := prtW 0 R53 ++ saleW 2 S) rfl ?_
      refine ev_callVN (Yc := mX3_priceOf) [2, 3, 4, 5, 6, 7, 8, 9] dX2_putBid_59 tn_845 kX3_priceOf (m_X3_priceOf S b hS hb) rfl (st := [.ref 0]) rfl rfl rfl (by decide) hw_Prt0_Sale2__2 (by decide) (Nat.le_of_ble_eq_true rfl) (Nat.le_refl _) (Nat.le_refl _) (fun r w' h => by obtain ⟨-, rfl⟩ := h; exact Nat.le_of_ble_eq_true rfl) ?_
      rintro _ _ ⟨rfl, rfl⟩
      refine ev_eq (lv' := [(3, .int (nI (6))), (0, .ref 0), (1, .ref 2), (2, .int (nI (b)))]) (st' := [.int (nI (S.pr b)), .ref 0]) (w' := prtW 0 R53 ++ saleW 2 S) rfl rfl xp_Prt0_Sale2__2 ?_
      refine ev_callV (Yc := mX2_putNumber) [0, 1] dX2_putBid_62 tw_840 kX2_putNumber (m_X2_putNumber R53 _ (S.pr b) hR53 (by have h1 := num_len1 (x := S.bd b) (by omega); have h2 := itm_le (S.st b) 6 (Nat.le_refl _); have h3 := num_len2 (x := S.pr b) (by omega); first | omega | (simp only [List.length_append, List.length_cons, List.length_nil]; omega)) (by omega)) rfl (st := []) rfl rfl rfl (by decide) hw_Prt0_Sale2__0 (by decide) (Nat.le_of_ble_eq_true rfl) (Nat.le_refl _) (Nat.le_refl _) (fun r w' h => by obtain ⟨-, R', rfl, -⟩ := h; exact Nat.le_of_ble_eq_true rfl) ?_
      rintro _ _ ⟨rfl, R62, rfl, hR62⟩
      refine ev_eq (lv' := [(3, .int (nI (6))), (0, .ref 0), (1, .ref 2), (2, .int (nI (b)))]) (st' := []) (w' := prtW 0 R62 ++ saleW 2 S) rfl rfl xp_Prt0_Sale2__0 ?_
      exact ev_vret dX2_putBid_65 rfl (Nat.le_of_ble_eq_true rfl) (Nat.le_refl _) (Nat.le_refl _) ⟨rfl, R62, rfl, by unfold bidL; simpa using hR62⟩
    | succ j_ ih17 =>
      intro k hk17 Q1 hinv17
      have hlt17 : k < 6 := by omega
      have hQ1 := hinv17
      refine ev_b bX2_putBid_17_20 (lv' := [(3, .int (nI (k))), (0, .ref 0), (1, .ref 2), (2, .int (nI (b)))]) (st' := [.int (nI (6)), .int (nI (k))]) (w2 := prtW 0 Q1 ++ saleW 2 S) rfl ?_
      refine ev_icmp_ge_n (tgt := 50) (by omega) (by decide) dX2_putBid_20 (by decide) (fun h20 => (by exfalso; omega)) (fun h20 => ?_)
      refine ev_b bX2_putBid_23_25 (lv' := [(3, .int (nI (k))), (0, .ref 0), (1, .ref 2), (2, .int (nI (b)))]) (st' := [.int (nI (b)), .ref 2]) (w2 := prtW 0 Q1 ++ saleW 2 S) rfl ?_
      refine ev_callVN (Yc := mX3_setOf) [2, 3, 4, 5, 6, 7, 8, 9] dX2_putBid_25 tn_844 kX3_setOf (m_X3_setOf S b hS hb) rfl (st := []) rfl rfl rfl (by decide) hw_Prt0_Sale2__2 (by decide) (Nat.le_of_ble_eq_true rfl) (Nat.le_refl _) (Nat.le_refl _) (fun r w' h => by obtain ⟨-, rfl⟩ := h; exact Nat.le_of_ble_eq_true rfl) ?_
      rintro _ _ ⟨rfl, rfl⟩
      refine ev_eq (lv' := [(3, .int (nI (k))), (0, .ref 0), (1, .ref 2), (2, .int (nI (b)))]) (st' := [.int (nI (S.st b))]) (w' := prtW 0 Q1 ++ saleW 2 S) rfl rfl xp_Prt0_Sale2__2 ?_
      refine ev_b bX2_putBid_28_29 (lv' := [(3, .int (nI (k))), (0, .ref 0), (1, .ref 2), (2, .int (nI (b)))]) (st' := [.int (nI (k)), .int (nI (S.st b))]) (w2 := prtW 0 Q1 ++ saleW 2 S) rfl ?_
      refine ev_callSN (Yc := mX6_bitAt) [] dX2_putBid_29 tn_830 kX6_bitAt (m_X6_bitAt (S.st b) k (by omega) (by omega)) rfl (st := []) rfl (by decide) rfl (by decide) (Nat.le_of_ble_eq_true rfl) (Nat.le_refl _) (Nat.le_refl _) (fun r w' h => by obtain ⟨-, rfl⟩ := h; exact Nat.le_of_ble_eq_true rfl) ?_
      rintro _ _ ⟨rfl, rfl⟩
      refine ev_eq (lv' := [(3, .int (nI (k))), (0, .ref 0), (1, .ref 2), (2, .int (nI (b)))]) (st' := [.int (nI (b01 ((S.st b).testBit k = true)))]) (w' := prtW 0 Q1 ++ saleW 2 S) rfl rfl rfl ?_
      refine ev_b bX2_putBid_32_33 (lv' := [(3, .int (nI (k))), (0, .ref 0), (1, .ref 2), (2, .int (nI (b)))]) (st' := [.int (nI (1)), .int (nI (b01 ((S.st b).testBit k = true)))]) (w2 := prtW 0 Q1 ++ saleW 2 S) rfl ?_
      refine ev_icmpne_b1 (tgt := 44) dX2_putBid_33 (by decide) (fun h33 => ?_) (fun h33 => ?_)
      · skip
        have hnext : PrL Q1 (((L ++ numL (S.bd b)) ++ [58]) ++ itmL (S.st b) (k + 1)) := by rw [itmL_s, if_neg h33]; exact hinv17
        refine ev_iinc_n (x := k) (v := 1) dX2_putBid_44 rfl (by decide) ?_
        refine ev_eq (lv' := [(3, .int (nI (k + 1))), (0, .ref 0), (1, .ref 2), (2, .int (nI (b)))]) rfl rfl rfl ?_
        refine ev_b bX2_putBid_47_17 (lv' := [(3, .int (nI (k + 1))), (0, .ref 0), (1, .ref 2), (2, .int (nI (b)))]) (st' := []) (w2 := prtW 0 Q1 ++ saleW 2 S) rfl ?_
        rw [show nI (k + 1) = nI ((k + 1)) from congrArg nI (by omega)]
        exact ih17 (k + 1) (by omega) _ hnext
      · skip
        refine ev_b bX2_putBid_36_40 (lv' := [(3, .int (nI (k))), (0, .ref 0), (1, .ref 2), (2, .int (nI (b)))]) (st' := [.int (nI (k)), .int (nI (97)), .ref 0]) (w2 := prtW 0 Q1 ++ saleW 2 S) rfl ?_
        refine ev_iadd_n dX2_putBid_40 ?_
        refine ev_callV (Yc := mX2_put) [0, 1] dX2_putBid_41 tw_831 kX2_put (m_X2_put Q1 _ (97 + k) hQ1 (by have h1 := num_len1 (x := S.bd b) (by omega); have h2 := itm_le (S.st b) k (by omega); first | omega | (simp only [List.length_append, List.length_cons, List.length_nil]; omega))) rfl (st := []) rfl rfl rfl (by decide) hw_Prt0_Sale2__0 (by decide) (Nat.le_of_ble_eq_true rfl) (Nat.le_refl _) (Nat.le_refl _) (fun r w' h => by obtain ⟨-, R', rfl, -⟩ := h; exact Nat.le_of_ble_eq_true rfl) ?_
        rintro _ _ ⟨rfl, R41, rfl, hR41⟩
        refine ev_eq (lv' := [(3, .int (nI (k))), (0, .ref 0), (1, .ref 2), (2, .int (nI (b)))]) (st' := []) (w' := prtW 0 R41 ++ saleW 2 S) rfl rfl xp_Prt0_Sale2__0 ?_
        have hnext : PrL R41 (((L ++ numL (S.bd b)) ++ [58]) ++ itmL (S.st b) (k + 1)) := by rw [itmL_s, if_pos h33, ← List.append_assoc]; exact hR41
        refine ev_iinc_n (x := k) (v := 1) dX2_putBid_44 rfl (by decide) ?_
        refine ev_eq (lv' := [(3, .int (nI (k + 1))), (0, .ref 0), (1, .ref 2), (2, .int (nI (b)))]) rfl rfl rfl ?_
        refine ev_b bX2_putBid_47_17 (lv' := [(3, .int (nI (k + 1))), (0, .ref 0), (1, .ref 2), (2, .int (nI (b)))]) (st' := []) (w2 := prtW 0 R41 ++ saleW 2 S) rfl ?_
        rw [show nI (k + 1) = nI ((k + 1)) from congrArg nI (by omega)]
        exact ih17 (k + 1) (by omega) _ hnext
  exact L17 6 0 (by omega) _ (by rw [show itmL (S.st b) 0 = [] from rfl, List.append_nil]; exact hR12)
theorem bX2_putWinners_0_8 {l : Launch} {E : XE} : Snd l E mX2_putWinners 0 8 (xs [x_aload 0, x_push (.int (nI 0)), x_puti 3 1, x_push (.int (nI 0)), x_istore 4]) := Snd.cons (snd_aload_n (i := 0) dX2_putWinners_0 rfl) (Snd.cons (snd_iconst (v := nI 0) dX2_putWinners_1 (by decide)) (Snd.cons (snd_puti (ci := 3) (k := 1) dX2_putWinners_2 rfl inX2 tyX2_ok nmX2 (by decide) tw_200 rfl rfl) (Snd.cons (snd_iconst (v := nI 0) dX2_putWinners_5 (by decide)) (Snd.cons (snd_istore dX2_putWinners_6 (by decide)) Snd.nil))))
theorem bX2_putWinners_8_14 {l : Launch} {E : XE} : Snd l E mX2_putWinners 8 14 (xs [x_iload 4, x_aload 1, x_get 4 7]) := Snd.cons (snd_iload dX2_putWinners_8) (Snd.cons (snd_aload_n (i := 1) dX2_putWinners_10 rfl) (Snd.cons (snd_getN (ci := 4) (k := 7) dX2_putWinners_11 rfl inX3 (by decide) tn_43) Snd.nil))
theorem bX2_putWinners_53_56 {l : Launch} {E : XE} : Snd l E mX2_putWinners 53 56 (xs [x_aload 0, x_push (.int (nI 47))]) := Snd.cons (snd_aload_n (i := 0) dX2_putWinners_53 rfl) (Snd.cons (snd_bipush (v := nI 47) dX2_putWinners_54 (by decide)) Snd.nil)
theorem bX2_putWinners_59_61 {l : Launch} {E : XE} : Snd l E mX2_putWinners 59 61 (xs [x_aload 0, x_iload 3]) := Snd.cons (snd_aload_n (i := 0) dX2_putWinners_59 rfl) (Snd.cons (snd_iload_n (i := 3) dX2_putWinners_60 rfl) Snd.nil)
theorem bX2_putWinners_17_20 {l : Launch} {E : XE} : Snd l E mX2_putWinners 17 20 (xs [x_iload 2, x_iload 4]) := Snd.cons (snd_iload_n (i := 2) dX2_putWinners_17 rfl) (Snd.cons (snd_iload dX2_putWinners_18) Snd.nil)
theorem bX2_putWinners_23_24 {l : Launch} {E : XE} : Snd l E mX2_putWinners 23 24 (xs [x_push (.int (nI 1))]) := Snd.cons (snd_iconst (v := nI 1) dX2_putWinners_23 (by decide)) Snd.nil
theorem bX2_putWinners_50_8 {l : Launch} {E : XE} : Snd l E mX2_putWinners 50 8 (xs [x_id]) := Snd.cons (snd_goto (tgt := 8) dX2_putWinners_50 (by decide)) Snd.nil
theorem bX2_putWinners_27_31 {l : Launch} {E : XE} : Snd l E mX2_putWinners 27 31 (xs [x_aload 0, x_get 3 1]) := Snd.cons (snd_aload_n (i := 0) dX2_putWinners_27 rfl) (Snd.cons (snd_get (ci := 3) (k := 1) dX2_putWinners_28 rfl inX2 (by decide) tw_200) Snd.nil)
theorem bX2_putWinners_40_44 {l : Launch} {E : XE} : Snd l E mX2_putWinners 40 44 (xs [x_aload 0, x_aload 1, x_iload 4]) := Snd.cons (snd_aload_n (i := 0) dX2_putWinners_40 rfl) (Snd.cons (snd_aload_n (i := 1) dX2_putWinners_41 rfl) (Snd.cons (snd_iload dX2_putWinners_42) Snd.nil))
theorem bX2_putWinners_34_37 {l : Launch} {E : XE} : Snd l E mX2_putWinners 34 37 (xs [x_aload 0, x_push (.int (nI 59))]) := Snd.cons (snd_aload_n (i := 0) dX2_putWinners_34 rfl) (Snd.cons (snd_bipush (v := nI 59) dX2_putWinners_35 (by decide)) Snd.nil)
set_option maxHeartbeats 4000000 in
set_option maxRecDepth 100000 in
theorem m_X2_putWinners {l : Launch} {E : XE} (R : PrtN) (S : SaleN) (W x : Nat) (hS : SaleOK S) (hW : W < 1024) (hd : dsj S.st W S.ca = true) (hx : x < 1000) : MetE l E mX2_putWinners (3) 0 0 [.ref 0, .ref 2, .int (nI (W)), .int (nI (x))] (prtW 0 R ++ saleW 2 S) (fun r w' => r = none ∧ ∃ R' : PrtN, w' = prtW 0 R' ++ saleW 2 S ∧ PrL R' ((winL S W S.ca ++ [47]) ++ numL x)) := by
  refine MetE.of (by decide +kernel) (Nat.le_of_ble_eq_true rfl) ?_
  have hca := hS.1
  refine ev_eq (lv' := [(0, .ref 0), (1, .ref 2), (2, .int (nI (W))), (3, .int (nI (x)))]) (st' := []) (w' := prtW 0 R ++ saleW 2 S) rfl rfl rfl ?_
  refine ev_b bX2_putWinners_0_8 (lv' := [(4, .int (nI (0))), (0, .ref 0), (1, .ref 2), (2, .int (nI (W))), (3, .int (nI (x)))]) (st' := []) (w2 := prtW 0 ((R.sg, 0) : PrtN) ++ saleW 2 S) rfl ?_
  have L8 : ∀ (j_ k : Nat), k + j_ = S.ca → ∀ (Q1 : PrtN), (PrL Q1 (winL S W k)) → Ev l E mX2_putWinners (3) 0 0 (prtW 0 R ++ saleW 2 S) (fun r w' => r = none ∧ ∃ R' : PrtN, w' = prtW 0 R' ++ saleW 2 S ∧ PrL R' ((winL S W S.ca ++ [47]) ++ numL x)) 0 0 8 [(4, .int (nI (k))), (0, .ref 0), (1, .ref 2), (2, .int (nI (W))), (3, .int (nI (x)))] [] (prtW 0 Q1 ++ saleW 2 S) := by
    intro j_
    induction j_ with
    | zero =>
      intro k hk8 Q1 hinv8
      replace hk8 : k = S.ca := hk8
      subst hk8
      have hQ1 := hinv8
      have hql := hinv8.1
      have hw42 := win_le42 hS (W := W) (n := S.ca) (by omega) hd
      refine ev_b bX2_putWinners_8_14 (lv' := [(4, .int (nI (S.ca))), (0, .ref 0), (1, .ref 2), (2, .int (nI (W))), (3, .int (nI (x)))]) (st' := [.int (nI (S.ca)), .int (nI (S.ca))]) (w2 := prtW 0 Q1 ++ saleW 2 S) rfl ?_
      refine ev_icmp_ge_n (tgt := 53) (by omega) (by omega) dX2_putWinners_14 (by decide) (fun h14 => ?_) (fun h14 => (by exfalso; omega))
      refine ev_b bX2_putWinners_53_56 (lv' := [(4, .int (nI (S.ca))), (0, .ref 0), (1, .ref 2), (2, .int (nI (W))), (3, .int (nI (x)))]) (st' := [.int (nI (47)), .ref 0]) (w2 := prtW 0 Q1 ++ saleW 2 S) rfl ?_
      refine ev_callV (Yc := mX2_put) [0, 1] dX2_putWinners_56 tw_831 kX2_put (m_X2_put Q1 _ 47 hQ1 (by have hw := win_le42 hS (W := W) (n := S.ca) (Nat.le_refl _) hd; first | omega | (simp only [List.length_append, List.length_cons, List.length_nil]; omega))) rfl (st := []) rfl rfl rfl (by decide) hw_Prt0_Sale2__0 (by decide) (Nat.le_of_ble_eq_true rfl) (Nat.le_refl _) (Nat.le_refl _) (fun r w' h => by obtain ⟨-, R', rfl, -⟩ := h; exact Nat.le_of_ble_eq_true rfl) ?_
      rintro _ _ ⟨rfl, R56, rfl, hR56⟩
      refine ev_eq (lv' := [(4, .int (nI (S.ca))), (0, .ref 0), (1, .ref 2), (2, .int (nI (W))), (3, .int (nI (x)))]) (st' := []) (w' := prtW 0 R56 ++ saleW 2 S) rfl rfl xp_Prt0_Sale2__0 ?_
      refine ev_b bX2_putWinners_59_61 (lv' := [(4, .int (nI (S.ca))), (0, .ref 0), (1, .ref 2), (2, .int (nI (W))), (3, .int (nI (x)))]) (st' := [.int (nI (x)), .ref 0]) (w2 := prtW 0 R56 ++ saleW 2 S) rfl ?_
      refine ev_callV (Yc := mX2_putNumber) [0, 1] dX2_putWinners_61 tw_840 kX2_putNumber (m_X2_putNumber R56 _ x hR56 (by have hw := win_le42 hS (W := W) (n := S.ca) (Nat.le_refl _) hd; first | omega | (simp only [List.length_append, List.length_cons, List.length_nil]; omega)) hx) rfl (st := []) rfl rfl rfl (by decide) hw_Prt0_Sale2__0 (by decide) (Nat.le_of_ble_eq_true rfl) (Nat.le_refl _) (Nat.le_refl _) (fun r w' h => by obtain ⟨-, R', rfl, -⟩ := h; exact Nat.le_of_ble_eq_true rfl) ?_
      rintro _ _ ⟨rfl, R61, rfl, hR61⟩
      refine ev_eq (lv' := [(4, .int (nI (S.ca))), (0, .ref 0), (1, .ref 2), (2, .int (nI (W))), (3, .int (nI (x)))]) (st' := []) (w' := prtW 0 R61 ++ saleW 2 S) rfl rfl xp_Prt0_Sale2__0 ?_
      exact ev_vret dX2_putWinners_64 rfl (Nat.le_of_ble_eq_true rfl) (Nat.le_refl _) (Nat.le_refl _) ⟨rfl, R61, rfl, hR61⟩
    | succ j_ ih8 =>
      intro k hk8 Q1 hinv8
      have hlt8 : k < S.ca := by omega
      have hQ1 := hinv8
      have hql := hinv8.1
      have hw42 := win_le42 hS (W := W) (n := k) (by omega) hd
      refine ev_b bX2_putWinners_8_14 (lv' := [(4, .int (nI (k))), (0, .ref 0), (1, .ref 2), (2, .int (nI (W))), (3, .int (nI (x)))]) (st' := [.int (nI (S.ca)), .int (nI (k))]) (w2 := prtW 0 Q1 ++ saleW 2 S) rfl ?_
      refine ev_icmp_ge_n (tgt := 53) (by omega) (by omega) dX2_putWinners_14 (by decide) (fun h14 => (by exfalso; omega)) (fun h14 => ?_)
      refine ev_b bX2_putWinners_17_20 (lv' := [(4, .int (nI (k))), (0, .ref 0), (1, .ref 2), (2, .int (nI (W))), (3, .int (nI (x)))]) (st' := [.int (nI (k)), .int (nI (W))]) (w2 := prtW 0 Q1 ++ saleW 2 S) rfl ?_
      refine ev_callSN (Yc := mX6_bitAt) [] dX2_putWinners_20 tn_830 kX6_bitAt (m_X6_bitAt W k (by omega) (by omega)) rfl (st := []) rfl (by decide) rfl (by decide) (Nat.le_of_ble_eq_true rfl) (Nat.le_refl _) (Nat.le_refl _) (fun r w' h => by obtain ⟨-, rfl⟩ := h; exact Nat.le_of_ble_eq_true rfl) ?_
      rintro _ _ ⟨rfl, rfl⟩
      refine ev_eq (lv' := [(4, .int (nI (k))), (0, .ref 0), (1, .ref 2), (2, .int (nI (W))), (3, .int (nI (x)))]) (st' := [.int (nI (b01 (W.testBit k = true)))]) (w' := prtW 0 Q1 ++ saleW 2 S) rfl rfl rfl ?_
      refine ev_b bX2_putWinners_23_24 (lv' := [(4, .int (nI (k))), (0, .ref 0), (1, .ref 2), (2, .int (nI (W))), (3, .int (nI (x)))]) (st' := [.int (nI (1)), .int (nI (b01 (W.testBit k = true)))]) (w2 := prtW 0 Q1 ++ saleW 2 S) rfl ?_
      refine ev_icmpne_b1 (tgt := 47) dX2_putWinners_24 (by decide) (fun h24 => ?_) (fun h24 => ?_)
      · skip
        have hnext : PrL Q1 (winL S W (k + 1)) := by rw [winL_s, if_neg h24]; exact hinv8
        refine ev_iinc_n (x := k) (v := 1) dX2_putWinners_47 rfl (by decide) ?_
        refine ev_eq (lv' := [(4, .int (nI (k + 1))), (0, .ref 0), (1, .ref 2), (2, .int (nI (W))), (3, .int (nI (x)))]) rfl rfl rfl ?_
        refine ev_b bX2_putWinners_50_8 (lv' := [(4, .int (nI (k + 1))), (0, .ref 0), (1, .ref 2), (2, .int (nI (W))), (3, .int (nI (x)))]) (st' := []) (w2 := prtW 0 Q1 ++ saleW 2 S) rfl ?_
        rw [show nI (k + 1) = nI ((k + 1)) from congrArg nI (by omega)]
        exact ih8 (k + 1) (by omega) _ hnext
      · skip
        refine ev_b bX2_putWinners_27_31 (lv' := [(4, .int (nI (k))), (0, .ref 0), (1, .ref 2), (2, .int (nI (W))), (3, .int (nI (x)))]) (st' := [.int (nI (Q1.ln))]) (w2 := prtW 0 Q1 ++ saleW 2 S) rfl ?_
        refine ev_if_le_n (tgt := 40) (by omega) dX2_putWinners_31 (by decide) (fun h31 => ?_) (fun h31 => ?_)
        · skip
          have h0 : (winL S W k).length = 0 := by omega
          have hg : winL S W (k + 1) = winL S W k ++ bidL S k := by rw [winL_s, if_pos h24, if_pos h0, List.eq_nil_of_length_eq_zero h0, List.nil_append]
          refine ev_b bX2_putWinners_40_44 (lv' := [(4, .int (nI (k))), (0, .ref 0), (1, .ref 2), (2, .int (nI (W))), (3, .int (nI (x)))]) (st' := [.int (nI (k)), .ref 2, .ref 0]) (w2 := prtW 0 Q1 ++ saleW 2 S) rfl ?_
          refine ev_callV (Yc := mX2_putBid) (rng 0 10) dX2_putWinners_44 tw_835 kX2_putBid (m_X2_putBid Q1 S _ k hQ1 (by have hw := win_le42 hS (W := W) (n := k) (by omega) hd; first | omega | (simp only [List.length_append, List.length_cons, List.length_nil]; omega)) hS hlt8) rfl (st := []) rfl rfl rfl (by decide) (same_hw (prtW 0 Q1 ++ saleW 2 S)) (by decide) (Nat.le_of_ble_eq_true rfl) (Nat.le_refl _) (Nat.le_refl _) (fun r w' h => by obtain ⟨-, R', rfl, -⟩ := h; exact Nat.le_of_ble_eq_true rfl) ?_
          rintro _ _ ⟨rfl, R44, rfl, hR44⟩
          refine ev_eq (lv' := [(4, .int (nI (k))), (0, .ref 0), (1, .ref 2), (2, .int (nI (W))), (3, .int (nI (x)))]) (st' := []) (w' := prtW 0 R44 ++ saleW 2 S) rfl rfl (same_xp (prtW 0 Q1 ++ saleW 2 S) (prtW 0 R44 ++ saleW 2 S) rfl) ?_
          have hnext : PrL R44 (winL S W (k + 1)) := by rw [hg]; exact hR44
          refine ev_iinc_n (x := k) (v := 1) dX2_putWinners_47 rfl (by decide) ?_
          refine ev_eq (lv' := [(4, .int (nI (k + 1))), (0, .ref 0), (1, .ref 2), (2, .int (nI (W))), (3, .int (nI (x)))]) rfl rfl rfl ?_
          refine ev_b bX2_putWinners_50_8 (lv' := [(4, .int (nI (k + 1))), (0, .ref 0), (1, .ref 2), (2, .int (nI (W))), (3, .int (nI (x)))]) (st' := []) (w2 := prtW 0 R44 ++ saleW 2 S) rfl ?_
          rw [show nI (k + 1) = nI ((k + 1)) from congrArg nI (by omega)]
          exact ih8 (k + 1) (by omega) _ hnext
        · skip
          have hg : winL S W (k + 1) = (winL S W k ++ [59]) ++ bidL S k := by rw [winL_s, if_pos h24, if_neg (fun z => h31 (by omega))]
          refine ev_b bX2_putWinners_34_37 (lv' := [(4, .int (nI (k))), (0, .ref 0), (1, .ref 2), (2, .int (nI (W))), (3, .int (nI (x)))]) (st' := [.int (nI (59)), .ref 0]) (w2 := prtW 0 Q1 ++ saleW 2 S) rfl ?_
          refine ev_callV (Yc := mX2_put) [0, 1] dX2_putWinners_37 tw_831 kX2_put (m_X2_put Q1 _ 59 hQ1 (by have hw := win_le42 hS (W := W) (n := k) (by omega) hd; first | omega | (simp only [List.length_append, List.length_cons, List.length_nil]; omega))) rfl (st := []) rfl rfl rfl (by decide) hw_Prt0_Sale2__0 (by decide) (Nat.le_of_ble_eq_true rfl) (Nat.le_refl _) (Nat.le_refl _) (fun r w' h => by obtain ⟨-, R', rfl, -⟩ := h; exact Nat.le_of_ble_eq_true rfl) ?_
          rintro _ _ ⟨rfl, R37, rfl, hR37⟩
          refine ev_eq (lv' := [(4, .int (nI (k))), (0, .ref 0), (1, .ref 2), (2, .int (nI (W))), (3, .int (nI (x)))]) (st' := []) (w' := prtW 0 R37 ++ saleW 2 S) rfl rfl xp_Prt0_Sale2__0 ?_
          refine ev_b bX2_putWinners_40_44 (lv' := [(4, .int (nI (k))), (0, .ref 0), (1, .ref 2), (2, .int (nI (W))), (3, .int (nI (x)))]) (st' := [.int (nI (k)), .ref 2, .ref 0]) (w2 := prtW 0 R37 ++ saleW 2 S) rfl ?_
          refine ev_callV (Yc := mX2_putBid) (rng 0 10) dX2_putWinners_44 tw_835 kX2_putBid (m_X2_putBid R37 S _ k hR37 (by have hw := win_le42 hS (W := W) (n := k) (by omega) hd; first | omega | (simp only [List.length_append, List.length_cons, List.length_nil]; omega)) hS hlt8) rfl (st := []) rfl rfl rfl (by decide) (same_hw (prtW 0 R37 ++ saleW 2 S)) (by decide) (Nat.le_of_ble_eq_true rfl) (Nat.le_refl _) (Nat.le_refl _) (fun r w' h => by obtain ⟨-, R', rfl, -⟩ := h; exact Nat.le_of_ble_eq_true rfl) ?_
          rintro _ _ ⟨rfl, R44, rfl, hR44⟩
          refine ev_eq (lv' := [(4, .int (nI (k))), (0, .ref 0), (1, .ref 2), (2, .int (nI (W))), (3, .int (nI (x)))]) (st' := []) (w' := prtW 0 R44 ++ saleW 2 S) rfl rfl (same_xp (prtW 0 R37 ++ saleW 2 S) (prtW 0 R44 ++ saleW 2 S) rfl) ?_
          have hnext : PrL R44 (winL S W (k + 1)) := by rw [hg]; exact hR44
          refine ev_iinc_n (x := k) (v := 1) dX2_putWinners_47 rfl (by decide) ?_
          refine ev_eq (lv' := [(4, .int (nI (k + 1))), (0, .ref 0), (1, .ref 2), (2, .int (nI (W))), (3, .int (nI (x)))]) rfl rfl rfl ?_
          refine ev_b bX2_putWinners_50_8 (lv' := [(4, .int (nI (k + 1))), (0, .ref 0), (1, .ref 2), (2, .int (nI (W))), (3, .int (nI (x)))]) (st' := []) (w2 := prtW 0 R44 ++ saleW 2 S) rfl ?_
          rw [show nI (k + 1) = nI ((k + 1)) from congrArg nI (by omega)]
          exact ih8 (k + 1) (by omega) _ hnext
  exact L8 S.ca 0 (by omega) _ ⟨rfl, fun p m z => by cases z⟩
theorem bX2_signAt_0_1 {l : Launch} {E : XE} : Snd l E mX2_signAt 0 1 (xs [x_iload 1]) := Snd.cons (snd_iload_n (i := 1) dX2_signAt_0 rfl) Snd.nil
theorem bX2_signAt_4_9 {l : Launch} {E : XE} : Snd l E mX2_signAt 4 9 (xs [x_iload 1, x_aload 0, x_get 3 1]) := Snd.cons (snd_iload_n (i := 1) dX2_signAt_4 rfl) (Snd.cons (snd_aload_n (i := 0) dX2_signAt_5 rfl) (Snd.cons (snd_get (ci := 3) (k := 1) dX2_signAt_6 rfl inX2 (by decide) tw_200) Snd.nil))
theorem bX2_signAt_27_29 {l : Launch} {E : XE} : Snd l E mX2_signAt 27 29 (xs [x_push (.int (-9))]) := Snd.cons (snd_bipush (v := -9) dX2_signAt_27 (by decide)) Snd.nil
theorem bX2_signAt_12_15 {l : Launch} {E : XE} : Snd l E mX2_signAt 12 15 (xs [x_iload 1, x_push (.int (nI 64))]) := Snd.cons (snd_iload_n (i := 1) dX2_signAt_12 rfl) (Snd.cons (snd_bipush (v := nI 64) dX2_signAt_13 (by decide)) Snd.nil)
theorem bX2_signAt_18_23 {l : Launch} {E : XE} : Snd l E mX2_signAt 18 23 (xs [x_aload 0, x_get 3 0, x_iload 1]) := Snd.cons (snd_aload_n (i := 0) dX2_signAt_18 rfl) (Snd.cons (snd_get (ci := 3) (k := 0) dX2_signAt_19 rfl inX2 (by decide) tw_199) (Snd.cons (snd_iload_n (i := 1) dX2_signAt_22 rfl) Snd.nil))
theorem bX2_signAt_24_29 {l : Launch} {E : XE} : Snd l E mX2_signAt 24 29 (xs [x_id]) := Snd.cons (snd_goto (tgt := 29) dX2_signAt_24 (by decide)) Snd.nil
set_option maxHeartbeats 4000000 in
set_option maxRecDepth 100000 in
theorem m_X2_signAt {l : Launch} {E : XE} (R : PrtN) (L : List Nat) (i : Nat) (h : PrL R L) (hl : L.length ≤ 64) (hi : i < 2147483648) : MetE l E mX2_signAt (0) 0 0 [.ref 0, .int (nI (i))] (prtW 0 R) (fun r w' => r = some (.int (zI (prZ L i))) ∧ w' = prtW 0 R) := by
  refine MetE.of (by decide +kernel) (Nat.le_of_ble_eq_true rfl) ?_
  have hln := h.1
  refine ev_eq (lv' := [(0, .ref 0), (1, .int (nI (i)))]) (st' := []) (w' := prtW 0 R) rfl rfl rfl ?_
  refine ev_b bX2_signAt_0_1 (lv' := [(0, .ref 0), (1, .int (nI (i)))]) (st' := [.int (nI (i))]) (w2 := prtW 0 R) rfl ?_
  refine ev_if_lt_n (tgt := 27) (by omega) dX2_signAt_1 (by decide) (fun h1 => (by exfalso; omega)) (fun h1 => ?_)
  refine ev_b bX2_signAt_4_9 (lv' := [(0, .ref 0), (1, .int (nI (i)))]) (st' := [.int (nI (R.ln)), .int (nI (i))]) (w2 := prtW 0 R) rfl ?_
  refine ev_icmp_ge_n (tgt := 27) (by omega) (by omega) dX2_signAt_9 (by decide) (fun h9 => ?_) (fun h9 => ?_)
  · skip
    refine ev_b bX2_signAt_27_29 (lv' := [(0, .ref 0), (1, .int (nI (i)))]) (st' := [.int (-9)]) (w2 := prtW 0 R) rfl ?_
    exact ev_iret dX2_signAt_29 rfl (Nat.le_of_ble_eq_true rfl) (Nat.le_refl _) (Nat.le_refl _) ⟨(by first | (exact congrArg (fun v => some (Value.int v)) ((zI_nat _).symm.trans (congrArg zI (show ((R.sg i : Nat) : Int) = prZ L i from by unfold prZ; rw [List.getElem?_eq_getElem (show i < L.length by omega), h.2 i _ (List.getElem?_eq_getElem (show i < L.length by omega))])))) | (rw [show prZ L i = -9 from by unfold prZ; rw [List.getElem?_eq_none (by omega)]]; exact congrArg (fun v => some (Value.int v)) (show (-9 : Int32) = zI (-9) from by decide)) | (unfold prZ; rw [List.getElem?_eq_getElem (show i < L.length by omega), h.2 i _ (List.getElem?_eq_getElem (show i < L.length by omega))])), rfl⟩
  · skip
    refine ev_b bX2_signAt_12_15 (lv' := [(0, .ref 0), (1, .int (nI (i)))]) (st' := [.int (nI (64)), .int (nI (i))]) (w2 := prtW 0 R) rfl ?_
    refine ev_icmp_ge_n (tgt := 27) (by omega) (by decide) dX2_signAt_15 (by decide) (fun h15 => (by exfalso; omega)) (fun h15 => ?_)
    refine ev_b bX2_signAt_18_23 (lv' := [(0, .ref 0), (1, .int (nI (i)))]) (st' := [.int (nI (i)), .ref 1]) (w2 := prtW 0 R) rfl ?_
    refine ev_iald_n (f := R.sg) dX2_signAt_23 rfl (by omega) (by decide) ?_
    refine ev_b bX2_signAt_24_29 (lv' := [(0, .ref 0), (1, .int (nI (i)))]) (st' := [.int (nI (R.sg i))]) (w2 := prtW 0 R) rfl ?_
    exact ev_iret dX2_signAt_29 rfl (Nat.le_of_ble_eq_true rfl) (Nat.le_refl _) (Nat.le_refl _) ⟨(congrArg (fun t => some (Value.int t)) (show nI (R.sg i) = zI (prZ L i) from by rw [← zI_nat]; exact congrArg zI (by first | (exact congrArg (fun v => some (Value.int v)) ((zI_nat _).symm.trans (congrArg zI (show ((R.sg i : Nat) : Int) = prZ L i from by unfold prZ; rw [List.getElem?_eq_getElem (show i < L.length by omega), h.2 i _ (List.getElem?_eq_getElem (show i < L.length by omega))])))) | (rw [show prZ L i = -9 from by unfold prZ; rw [List.getElem?_eq_none (by omega)]]; exact congrArg (fun v => some (Value.int v)) (show (-9 : Int32) = zI (-9) from by decide)) | (unfold prZ; rw [List.getElem?_eq_getElem (show i < L.length by omega), h.2 i _ (List.getElem?_eq_getElem (show i < L.length by omega))])))), rfl⟩
theorem bX6_printed_0_2 {l : Launch} {E : XE} : Snd l E mX6_printed 0 2 (xs [x_iload 1, x_push (.int (-1))]) := Snd.cons (snd_iload_n (i := 1) dX6_printed_0 rfl) (Snd.cons (snd_iconst (v := -1) dX6_printed_1 (by decide)) Snd.nil)
theorem bX6_printed_5_8 {l : Launch} {E : XE} : Snd l E mX6_printed 5 8 (xs [x_aload 0, x_push (.int (-4))]) := Snd.cons (snd_aload_n (i := 0) dX6_printed_5 rfl) (Snd.cons (snd_bipush (v := -4) dX6_printed_6 (by decide)) Snd.nil)
set_option maxHeartbeats 4000000 in
set_option maxRecDepth 100000 in
theorem p_printed_4 {l : Launch} {E : XE} (T : TopN) (S P U : SaleN) (O : OutN) (B : BillN) (Q : SeaN) (C : ScrN) (R : PrtN) (tl rf : Nat → Nat) (z : Int) (hS : SaleOK S) (hQ : Q.fd < 2147483648) (rz : -2147483648 ≤ z ∧ z < 2147483648) (h : z < -1) : MetE l E mX6_printed (1) 0 0 [.ref 0, .int (zI (z))] (compW T S P U O B Q C R tl rf) (CP T S P (C.lt) (C.sz) tl (up rf 4 (rf 4 + 1)) (some (.int (-4)))) := by
  refine MetE.of (by decide +kernel) (Nat.le_of_ble_eq_true rfl) ?_
  have hca := hS.1
  have hpw := pow_ca hS
  have hac := ac_lt hS
  
  refine ev_eq (lv' := [(0, .ref 0), (1, .int (zI (z)))]) (st' := []) (w' := compW T S P U O B Q C R tl rf) rfl rfl rfl ?_
  refine ev_b bX6_printed_0_2 (lv' := [(0, .ref 0), (1, .int (zI (z)))]) (st' := [.int (-1), .int (zI (z))]) (w2 := compW T S P U O B Q C R tl rf) rfl ?_
  refine ev_top (y := zI (-1)) (by decide) ?_
  refine ev_icmp_ge_z (tgt := 12) (by constructor <;> omega) (by constructor <;> omega) dX6_printed_2 (by decide) (fun h2 => (by exfalso; omega)) (fun h2 => ?_)
  refine ev_b bX6_printed_5_8 (lv' := [(0, .ref 0), (1, .int (zI (z)))]) (st' := [.int (-4), .ref 0]) (w2 := compW T S P U O B Q C R tl rf) rfl ?_
  refine ev_callV (Yc := mX6_refuse) (rng 0 49) dX6_printed_8 tw_248 kX6_refuse (m_X6_refuse_4 T S P U O B Q C R tl rf) rfl (st := []) rfl rfl rfl (by decide) comp_hw (by decide) (Nat.le_of_ble_eq_true rfl) (Nat.le_refl _) (Nat.le_refl _) (fun r w' h => by obtain ⟨-, rfl⟩ := h; exact Nat.le_of_ble_eq_true rfl) ?_
  rintro _ _ ⟨rfl, rfl⟩
  refine ev_eq (lv' := [(0, .ref 0), (1, .int (zI (z)))]) (st' := [.int (-4)]) (w' := compW T S P U O B Q C R tl ((up rf 4 (rf 4 + 1)))) rfl rfl comp_xp ?_
  exact ev_iret dX6_printed_11 rfl (Nat.le_refl 49) (Nat.le_refl _) (Nat.le_refl _) ⟨rfl, _, _, _, _, _, _, rfl, hQ, rfl, rfl⟩
theorem hw_comp__45_1 {x0 : TopN} {x1 : SaleN} {x2 : SaleN} {x3 : SaleN} {x4 : OutN} {x5 : BillN} {x6 : SeaN} {x7 : ScrN} {x8 : PrtN} {x9 : Nat → Nat} {x10 : Nat → Nat} : ([45, 46, 1, 2, 3, 4, 5, 6, 7, 8] : List Nat).map (fun i => (compW x0 x1 x2 x3 x4 x5 x6 x7 x8 x9 x10)[i]?) = (prtW 0 x8 ++ saleW 2 x1).map (fun e => some (xr ([45, 46, 1, 2, 3, 4, 5, 6, 7, 8] : List Nat) (compW x0 x1 x2 x3 x4 x5 x6 x7 x8 x9 x10).length e)) := rfl
theorem xp_comp__45_1 {x0 : TopN} {x1 : SaleN} {x2 : SaleN} {x3 : SaleN} {x4 : OutN} {x5 : BillN} {x6 : SeaN} {x7 : ScrN} {x8 : PrtN} {x9 : Nat → Nat} {x10 : Nat → Nat} {y0 : PrtN} {y1 : SaleN} : xput ([45, 46, 1, 2, 3, 4, 5, 6, 7, 8] : List Nat) (compW x0 x1 x2 x3 x4 x5 x6 x7 x8 x9 x10).length (compW x0 x1 x2 x3 x4 x5 x6 x7 x8 x9 x10) ([45, 46, 1, 2, 3, 4, 5, 6, 7, 8] : List Nat) (prtW 0 y0 ++ saleW 2 y1) = compW x0 y1 x2 x3 x4 x5 x6 x7 y0 x9 x10 := by
  have e0 : xput ([45, 46, 1, 2, 3, 4, 5, 6, 7, 8] : List Nat) (compW x0 x1 x2 x3 x4 x5 x6 x7 x8 x9 x10).length (compW x0 x1 x2 x3 x4 x5 x6 x7 x8 x9 x10) ([45, 46] : List Nat) (prtW 0 y0) = compW x0 x1 x2 x3 x4 x5 x6 x7 y0 x9 x10 := xput_blk (topW 0 x0 ++ (saleW 1 x1 ++ (saleW 9 x2 ++ (saleW 17 x3 ++ (outW 25 x4 ++ (billW 30 x5 ++ (seaW 35 x6 ++ (scrW 38 x7)))))))) (prtW 45 x8) (row5 47 x9 ++ (row7 48 x10)) (prtW 0 y0) rfl
  have e1 : xput ([45, 46, 1, 2, 3, 4, 5, 6, 7, 8] : List Nat) (compW x0 x1 x2 x3 x4 x5 x6 x7 x8 x9 x10).length (compW x0 x1 x2 x3 x4 x5 x6 x7 y0 x9 x10) ([1, 2, 3, 4, 5, 6, 7, 8] : List Nat) (saleW 2 y1) = compW x0 y1 x2 x3 x4 x5 x6 x7 y0 x9 x10 := xput_blk (topW 0 x0) (saleW 1 x1) (saleW 9 x2 ++ (saleW 17 x3 ++ (outW 25 x4 ++ (billW 30 x5 ++ (seaW 35 x6 ++ (scrW 38 x7 ++ (prtW 45 y0 ++ (row5 47 x9 ++ (row7 48 x10))))))))) (saleW 2 y1) rfl
  refine (xput_app ([45, 46] : List Nat) ([1, 2, 3, 4, 5, 6, 7, 8] : List Nat) _ (prtW 0 y0) (saleW 2 y1) rfl).trans ?_
  exact (congrArg (fun t => xput ([45, 46, 1, 2, 3, 4, 5, 6, 7, 8] : List Nat) (compW x0 x1 x2 x3 x4 x5 x6 x7 x8 x9 x10).length t ([1, 2, 3, 4, 5, 6, 7, 8] : List Nat) (saleW 2 y1)) e0).trans e1
theorem bX6_printed_12_20 {l : Launch} {E : XE} : Snd l E mX6_printed 12 20 (xs [x_aload 0, x_get 7 3, x_aload 0, x_get 7 0]) := Snd.cons (snd_aload_n (i := 0) dX6_printed_12 rfl) (Snd.cons (snd_get (ci := 7) (k := 3) dX6_printed_13 rfl inX6 (by decide) tw_210) (Snd.cons (snd_aload_n (i := 0) dX6_printed_16 rfl) (Snd.cons (snd_get (ci := 7) (k := 0) dX6_printed_17 rfl inX6 (by decide) tw_207) Snd.nil)))
theorem bX6_printed_23_30 {l : Launch} {E : XE} : Snd l E mX6_printed 23 30 (xs [x_aload 0, x_get 7 3, x_push (.int (nI 1023))]) := Snd.cons (snd_aload_n (i := 0) dX6_printed_23 rfl) (Snd.cons (snd_get (ci := 7) (k := 3) dX6_printed_24 rfl inX6 (by decide) tw_210) (Snd.cons (snd_sipush (v := nI 1023) dX6_printed_27 (by decide)) Snd.nil))
theorem bX6_printed_33_43 {l : Launch} {E : XE} : Snd l E mX6_printed 33 43 (xs [x_istore 2, x_aload 0, x_get 7 7, x_aload 0, x_get 7 0, x_iload 2]) := Snd.cons (snd_istore_n (i := 2) dX6_printed_33 rfl (by decide)) (Snd.cons (snd_aload_n (i := 0) dX6_printed_34 rfl) (Snd.cons (snd_get (ci := 7) (k := 7) dX6_printed_35 rfl inX6 (by decide) tw_214) (Snd.cons (snd_aload_n (i := 0) dX6_printed_38 rfl) (Snd.cons (snd_get (ci := 7) (k := 0) dX6_printed_39 rfl inX6 (by decide) tw_207) (Snd.cons (snd_iload_n (i := 2) dX6_printed_42 rfl) Snd.nil)))))
theorem bX6_printed_46_47 {l : Launch} {E : XE} : Snd l E mX6_printed 46 47 (xs [x_iload 2]) := Snd.cons (snd_iload_n (i := 2) dX6_printed_46 rfl) Snd.nil
theorem bX6_printed_53_55 {l : Launch} {E : XE} : Snd l E mX6_printed 53 55 (xs [x_iload 1, x_push (.int (-1))]) := Snd.cons (snd_iload_n (i := 1) dX6_printed_53 rfl) (Snd.cons (snd_iconst (v := -1) dX6_printed_54 (by decide)) Snd.nil)
theorem bX6_printed_58_76 {l : Launch} {E : XE} : Snd l E mX6_printed 58 76 (xs [x_aload 0, x_get 7 7, x_get 3 1, x_id]) := Snd.cons (snd_aload_n (i := 0) dX6_printed_58 rfl) (Snd.cons (snd_get (ci := 7) (k := 7) dX6_printed_59 rfl inX6 (by decide) tw_214) (Snd.cons (snd_getN (ci := 3) (k := 1) dX6_printed_62 rfl inX2 (by decide) tn_201) (Snd.cons (snd_goto (tgt := 76) dX6_printed_65 (by decide)) Snd.nil)))
set_option maxHeartbeats 4000000 in
set_option maxRecDepth 100000 in
theorem p_printed_len {l : Launch} {E : XE} (T : TopN) (S P U : SaleN) (O : OutN) (B : BillN) (Q : SeaN) (C : ScrN) (R : PrtN) (tl rf : Nat → Nat)  (hS : SaleOK S) (hQ : Q.fd < 2147483648)  : MetE l E mX6_printed (4) 0 0 [.ref 0, .int (zI (-1))] (compW T S P U O B Q C R tl rf) (CP T S P (C.lt) (C.sz) tl rf (some (.int (nI ((txtL S).length))))) := by
  refine MetE.of (by decide +kernel) (Nat.le_of_ble_eq_true rfl) ?_
  have hca := hS.1
  have hpw := pow_ca hS
  have hac := ac_lt hS
  obtain ⟨-, -, -, -, -, -, -, -, hk1, hk2, -⟩ := wK_spec hS 1023
  have hwb := winB_lt hS 1023
  refine ev_eq (lv' := [(0, .ref 0), (1, .int (zI (-1)))]) (st' := []) (w' := compW T S P U O B Q C R tl rf) rfl rfl rfl ?_
  refine ev_b bX6_printed_0_2 (lv' := [(0, .ref 0), (1, .int (zI (-1)))]) (st' := [.int (-1), .int (zI (-1))]) (w2 := compW T S P U O B Q C R tl rf) rfl ?_
  refine ev_top (y := zI (-1)) (by decide) ?_
  refine ev_icmp_ge_z (tgt := 12) (by constructor <;> omega) (by constructor <;> omega) dX6_printed_2 (by decide) (fun h2 => ?_) (fun h2 => (by exfalso; omega))
  refine ev_b bX6_printed_12_20 (lv' := [(0, .ref 0), (1, .int (zI (-1)))]) (st' := [.ref 1, .ref 25]) (w2 := compW T S P U O B Q C R tl rf) rfl ?_
  refine ev_callVN (Yc := mX1_gather) [25, 26, 27, 28, 29, 1, 2, 3, 4, 5, 6, 7, 8] dX6_printed_20 tn_497 kX1_gather (m_X1_gather O S hS) rfl (st := []) rfl rfl rfl (by decide) hw_comp__25_1 (by decide) (Nat.le_of_ble_eq_true rfl) (Nat.le_refl _) (Nat.le_refl _) (fun r w' h => by obtain ⟨-, O', rfl, -⟩ := h; exact Nat.le_of_ble_eq_true rfl) ?_
  rintro _ _ ⟨rfl, O1, rfl, hK1⟩
  refine ev_eq (lv' := [(0, .ref 0), (1, .int (zI (-1)))]) (st' := []) (w' := compW T S P U O1 B Q C R tl rf) rfl rfl xp_comp__25_1 ?_
  refine ev_b bX6_printed_23_30 (lv' := [(0, .ref 0), (1, .int (zI (-1)))]) (st' := [.int (nI (1023)), .ref 25]) (w2 := compW T S P U O1 B Q C R tl rf) rfl ?_
  refine ev_callVN (Yc := mX1_first) [25, 26, 27, 28, 29] dX6_printed_30 tn_543 kX1_first (m_X1_first O1 (1023) (keys_ok hS hK1)) rfl (st := []) rfl rfl rfl (by decide) hw_comp__25 (by decide) (Nat.le_of_ble_eq_true rfl) (Nat.le_refl _) (Nat.le_refl _) (fun r w' h => by obtain ⟨-, rfl⟩ := h; exact Nat.le_of_ble_eq_true rfl) ?_
  rintro _ _ ⟨rfl, rfl⟩
  refine ev_eq (lv' := [(0, .ref 0), (1, .int (zI (-1)))]) (st' := [.int (nI (firstTo O1.ke (1023) O1.sz))]) (w' := compW T S P U O1 B Q C R tl rf) rfl rfl xp_comp__25 ?_
  refine ev_top (y := (nI (wK S (1023)))) (congrArg nI (show firstTo O1.ke (1023) O1.sz = wK S (1023) from by exact first_L hK1 _)) ?_
  refine ev_b bX6_printed_33_43 (lv' := [(2, .int (nI (wK S (1023)))), (0, .ref 0), (1, .int (zI (-1)))]) (st' := [.int (nI (wK S (1023))), .ref 1, .ref 45]) (w2 := compW T S P U O1 B Q C R tl rf) rfl ?_
  refine ev_callSN (Yc := mX1_bidsIn) [] dX6_printed_43 tn_555 kX1_bidsIn (m_X1_bidsIn (wK S 1023)) rfl (st := [.ref 1, .ref 45]) rfl (by decide) rfl (by decide) (Nat.le_of_ble_eq_true rfl) (Nat.le_refl _) (Nat.le_refl _) (fun r w' h => by obtain ⟨-, rfl⟩ := h; exact Nat.le_of_ble_eq_true rfl) ?_
  rintro _ _ ⟨rfl, rfl⟩
  refine ev_eq (lv' := [(2, .int (nI (wK S (1023)))), (0, .ref 0), (1, .int (zI (-1)))]) (st' := [.int (nI (bidsN (wK S 1023))), .ref 1, .ref 45]) (w' := compW T S P U O1 B Q C R tl rf) rfl rfl rfl ?_
  refine ev_top (y := (nI (winB S 1023))) (congrArg nI (show bidsN (wK S 1023) = winB S 1023 from by rfl)) ?_
  refine ev_b bX6_printed_46_47 (lv' := [(2, .int (nI (wK S (1023)))), (0, .ref 0), (1, .int (zI (-1)))]) (st' := [.int (nI (wK S (1023))), .int (nI (winB S 1023)), .ref 1, .ref 45]) (w2 := compW T S P U O1 B Q C R tl rf) rfl ?_
  refine ev_callSN (Yc := mX1_worthIn) [] dX6_printed_47 tn_633 kX1_worthIn (m_X1_worthIn (wK S 1023) hk1 hk2) rfl (st := [.int (nI (winB S 1023)), .ref 1, .ref 45]) rfl (by decide) rfl (by decide) (Nat.le_of_ble_eq_true rfl) (Nat.le_refl _) (Nat.le_refl _) (fun r w' h => by obtain ⟨-, rfl⟩ := h; exact Nat.le_of_ble_eq_true rfl) ?_
  rintro _ _ ⟨rfl, rfl⟩
  refine ev_eq (lv' := [(2, .int (nI (wK S (1023)))), (0, .ref 0), (1, .int (zI (-1)))]) (st' := [.int (nI (worthK (wK S 1023))), .int (nI (winB S 1023)), .ref 1, .ref 45]) (w' := compW T S P U O1 B Q C R tl rf) rfl rfl rfl ?_
  refine ev_top (y := (nI (winW S 1023))) (congrArg nI (show worthK (wK S 1023) = winW S 1023 from by rfl)) ?_
  refine ev_callVN (Yc := mX2_putWinners) [45, 46, 1, 2, 3, 4, 5, 6, 7, 8] dX6_printed_50 tn_826 kX2_putWinners (m_X2_putWinners R S (winB S 1023) (winW S 1023) hS hwb (out_dsj (win_spec hS 1023).1) (by have := winW_le hS 1023; omega)) rfl (st := []) rfl rfl rfl (by decide) hw_comp__45_1 (by decide) (Nat.le_of_ble_eq_true rfl) (Nat.le_refl _) (Nat.le_refl _) (fun r w' h => by obtain ⟨-, R', rfl, -⟩ := h; exact Nat.le_of_ble_eq_true rfl) ?_
  rintro _ _ ⟨rfl, R2, rfl, hR2⟩
  refine ev_eq (lv' := [(2, .int (nI (wK S (1023)))), (0, .ref 0), (1, .int (zI (-1)))]) (st' := []) (w' := compW T S P U O1 B Q C R2 tl rf) rfl rfl xp_comp__45_1 ?_
  replace hR2 : PrL R2 (txtL S) := hR2
  have htl := txt_len hS
  have hr2 := hR2.1
  refine ev_b bX6_printed_53_55 (lv' := [(2, .int (nI (wK S (1023)))), (0, .ref 0), (1, .int (zI (-1)))]) (st' := [.int (-1), .int (zI (-1))]) (w2 := compW T S P U O1 B Q C R2 tl rf) rfl ?_
  refine ev_top (y := zI (-1)) (by decide) ?_
  refine ev_icmp_ne_z (tgt := 68) (by constructor <;> omega) (by constructor <;> omega) dX6_printed_55 (by decide) (fun h55 => (by exfalso; omega)) (fun h55 => ?_)
  refine ev_b bX6_printed_58_76 (lv' := [(2, .int (nI (wK S (1023)))), (0, .ref 0), (1, .int (zI (-1)))]) (st' := [.int (nI (R2.ln))]) (w2 := compW T S P U O1 B Q C R2 tl rf) rfl ?_
  exact ev_iret dX6_printed_76 rfl (Nat.le_refl 49) (Nat.le_refl _) (Nat.le_refl _) ⟨by rw [hr2], _, _, _, _, _, _, rfl, hQ, rfl, rfl⟩
theorem hw_comp__45 {x0 : TopN} {x1 : SaleN} {x2 : SaleN} {x3 : SaleN} {x4 : OutN} {x5 : BillN} {x6 : SeaN} {x7 : ScrN} {x8 : PrtN} {x9 : Nat → Nat} {x10 : Nat → Nat} : ([45, 46] : List Nat).map (fun i => (compW x0 x1 x2 x3 x4 x5 x6 x7 x8 x9 x10)[i]?) = (prtW 0 x8).map (fun e => some (xr ([45, 46] : List Nat) (compW x0 x1 x2 x3 x4 x5 x6 x7 x8 x9 x10).length e)) := rfl
theorem xp_comp__45 {x0 : TopN} {x1 : SaleN} {x2 : SaleN} {x3 : SaleN} {x4 : OutN} {x5 : BillN} {x6 : SeaN} {x7 : ScrN} {x8 : PrtN} {x9 : Nat → Nat} {x10 : Nat → Nat} {y0 : PrtN} : xput ([45, 46] : List Nat) (compW x0 x1 x2 x3 x4 x5 x6 x7 x8 x9 x10).length (compW x0 x1 x2 x3 x4 x5 x6 x7 x8 x9 x10) ([45, 46] : List Nat) (prtW 0 y0) = compW x0 x1 x2 x3 x4 x5 x6 x7 y0 x9 x10 := by
  have e0 : xput ([45, 46] : List Nat) (compW x0 x1 x2 x3 x4 x5 x6 x7 x8 x9 x10).length (compW x0 x1 x2 x3 x4 x5 x6 x7 x8 x9 x10) ([45, 46] : List Nat) (prtW 0 y0) = compW x0 x1 x2 x3 x4 x5 x6 x7 y0 x9 x10 := xput_blk (topW 0 x0 ++ (saleW 1 x1 ++ (saleW 9 x2 ++ (saleW 17 x3 ++ (outW 25 x4 ++ (billW 30 x5 ++ (seaW 35 x6 ++ (scrW 38 x7)))))))) (prtW 45 x8) (row5 47 x9 ++ (row7 48 x10)) (prtW 0 y0) rfl
  exact e0
theorem bX6_printed_68_73 {l : Launch} {E : XE} : Snd l E mX6_printed 68 73 (xs [x_aload 0, x_get 7 7, x_iload 1]) := Snd.cons (snd_aload_n (i := 0) dX6_printed_68 rfl) (Snd.cons (snd_get (ci := 7) (k := 7) dX6_printed_69 rfl inX6 (by decide) tw_214) (Snd.cons (snd_iload_n (i := 1) dX6_printed_72 rfl) Snd.nil))
set_option maxHeartbeats 4000000 in
set_option maxRecDepth 100000 in
theorem p_printed_at {l : Launch} {E : XE} (T : TopN) (S P U : SaleN) (O : OutN) (B : BillN) (Q : SeaN) (C : ScrN) (R : PrtN) (tl rf : Nat → Nat) (i : Nat) (hS : SaleOK S) (hQ : Q.fd < 2147483648) (hi : i < 2147483648) : MetE l E mX6_printed (4) 0 0 [.ref 0, .int (nI (i))] (compW T S P U O B Q C R tl rf) (CP T S P (C.lt) (C.sz) tl rf (some (.int (zI (prZ (txtL S) i))))) := by
  refine MetE.of (by decide +kernel) (Nat.le_of_ble_eq_true rfl) ?_
  have hca := hS.1
  have hpw := pow_ca hS
  have hac := ac_lt hS
  obtain ⟨-, -, -, -, -, -, -, -, hk1, hk2, -⟩ := wK_spec hS 1023
  have hwb := winB_lt hS 1023
  refine ev_eq (lv' := [(0, .ref 0), (1, .int (nI (i)))]) (st' := []) (w' := compW T S P U O B Q C R tl rf) rfl rfl rfl ?_
  refine ev_b bX6_printed_0_2 (lv' := [(0, .ref 0), (1, .int (nI (i)))]) (st' := [.int (-1), .int (nI (i))]) (w2 := compW T S P U O B Q C R tl rf) rfl ?_
  refine ev_top (y := zI (-1)) (by decide) ?_
  refine ev_top2 (y := zI (((i : Nat) : Int))) (zI_nat _).symm ?_
  refine ev_icmp_ge_z (tgt := 12) (by constructor <;> omega) (by constructor <;> omega) dX6_printed_2 (by decide) (fun h2 => ?_) (fun h2 => (by exfalso; omega))
  refine ev_b bX6_printed_12_20 (lv' := [(0, .ref 0), (1, .int (nI (i)))]) (st' := [.ref 1, .ref 25]) (w2 := compW T S P U O B Q C R tl rf) rfl ?_
  refine ev_callVN (Yc := mX1_gather) [25, 26, 27, 28, 29, 1, 2, 3, 4, 5, 6, 7, 8] dX6_printed_20 tn_497 kX1_gather (m_X1_gather O S hS) rfl (st := []) rfl rfl rfl (by decide) hw_comp__25_1 (by decide) (Nat.le_of_ble_eq_true rfl) (Nat.le_refl _) (Nat.le_refl _) (fun r w' h => by obtain ⟨-, O', rfl, -⟩ := h; exact Nat.le_of_ble_eq_true rfl) ?_
  rintro _ _ ⟨rfl, O1, rfl, hK1⟩
  refine ev_eq (lv' := [(0, .ref 0), (1, .int (nI (i)))]) (st' := []) (w' := compW T S P U O1 B Q C R tl rf) rfl rfl xp_comp__25_1 ?_
  refine ev_b bX6_printed_23_30 (lv' := [(0, .ref 0), (1, .int (nI (i)))]) (st' := [.int (nI (1023)), .ref 25]) (w2 := compW T S P U O1 B Q C R tl rf) rfl ?_
  refine ev_callVN (Yc := mX1_first) [25, 26, 27, 28, 29] dX6_printed_30 tn_543 kX1_first (m_X1_first O1 (1023) (keys_ok hS hK1)) rfl (st := []) rfl rfl rfl (by decide) hw_comp__25 (by decide) (Nat.le_of_ble_eq_true rfl) (Nat.le_refl _) (Nat.le_refl _) (fun r w' h => by obtain ⟨-, rfl⟩ := h; exact Nat.le_of_ble_eq_true rfl) ?_
  rintro _ _ ⟨rfl, rfl⟩
  refine ev_eq (lv' := [(0, .ref 0), (1, .int (nI (i)))]) (st' := [.int (nI (firstTo O1.ke (1023) O1.sz))]) (w' := compW T S P U O1 B Q C R tl rf) rfl rfl xp_comp__25 ?_
  refine ev_top (y := (nI (wK S (1023)))) (congrArg nI (show firstTo O1.ke (1023) O1.sz = wK S (1023) from by exact first_L hK1 _)) ?_
  refine ev_b bX6_printed_33_43 (lv' := [(2, .int (nI (wK S (1023)))), (0, .ref 0), (1, .int (nI (i)))]) (st' := [.int (nI (wK S (1023))), .ref 1, .ref 45]) (w2 := compW T S P U O1 B Q C R tl rf) rfl ?_
  refine ev_callSN (Yc := mX1_bidsIn) [] dX6_printed_43 tn_555 kX1_bidsIn (m_X1_bidsIn (wK S 1023)) rfl (st := [.ref 1, .ref 45]) rfl (by decide) rfl (by decide) (Nat.le_of_ble_eq_true rfl) (Nat.le_refl _) (Nat.le_refl _) (fun r w' h => by obtain ⟨-, rfl⟩ := h; exact Nat.le_of_ble_eq_true rfl) ?_
  rintro _ _ ⟨rfl, rfl⟩
  refine ev_eq (lv' := [(2, .int (nI (wK S (1023)))), (0, .ref 0), (1, .int (nI (i)))]) (st' := [.int (nI (bidsN (wK S 1023))), .ref 1, .ref 45]) (w' := compW T S P U O1 B Q C R tl rf) rfl rfl rfl ?_
  refine ev_top (y := (nI (winB S 1023))) (congrArg nI (show bidsN (wK S 1023) = winB S 1023 from by rfl)) ?_
  refine ev_b bX6_printed_46_47 (lv' := [(2, .int (nI (wK S (1023)))), (0, .ref 0), (1, .int (nI (i)))]) (st' := [.int (nI (wK S (1023))), .int (nI (winB S 1023)), .ref 1, .ref 45]) (w2 := compW T S P U O1 B Q C R tl rf) rfl ?_
  refine ev_callSN (Yc := mX1_worthIn) [] dX6_printed_47 tn_633 kX1_worthIn (m_X1_worthIn (wK S 1023) hk1 hk2) rfl (st := [.int (nI (winB S 1023)), .ref 1, .ref 45]) rfl (by decide) rfl (by decide) (Nat.le_of_ble_eq_true rfl) (Nat.le_refl _) (Nat.le_refl _) (fun r w' h => by obtain ⟨-, rfl⟩ := h; exact Nat.le_of_ble_eq_true rfl) ?_
  rintro _ _ ⟨rfl, rfl⟩
  refine ev_eq (lv' := [(2, .int (nI (wK S (1023)))), (0, .ref 0), (1, .int (nI (i)))]) (st' := [.int (nI (worthK (wK S 1023))), .int (nI (winB S 1023)), .ref 1, .ref 45]) (w' := compW T S P U O1 B Q C R tl rf) rfl rfl rfl ?_
  refine ev_top (y := (nI (winW S 1023))) (congrArg nI (show worthK (wK S 1023) = winW S 1023 from by rfl)) ?_
  refine ev_callVN (Yc := mX2_putWinners) [45, 46, 1, 2, 3, 4, 5, 6, 7, 8] dX6_printed_50 tn_826 kX2_putWinners (m_X2_putWinners R S (winB S 1023) (winW S 1023) hS hwb (out_dsj (win_spec hS 1023).1) (by have := winW_le hS 1023; omega)) rfl (st := []) rfl rfl rfl (by decide) hw_comp__45_1 (by decide) (Nat.le_of_ble_eq_true rfl) (Nat.le_refl _) (Nat.le_refl _) (fun r w' h => by obtain ⟨-, R', rfl, -⟩ := h; exact Nat.le_of_ble_eq_true rfl) ?_
  rintro _ _ ⟨rfl, R2, rfl, hR2⟩
  refine ev_eq (lv' := [(2, .int (nI (wK S (1023)))), (0, .ref 0), (1, .int (nI (i)))]) (st' := []) (w' := compW T S P U O1 B Q C R2 tl rf) rfl rfl xp_comp__45_1 ?_
  replace hR2 : PrL R2 (txtL S) := hR2
  have htl := txt_len hS
  have hr2 := hR2.1
  refine ev_b bX6_printed_53_55 (lv' := [(2, .int (nI (wK S (1023)))), (0, .ref 0), (1, .int (nI (i)))]) (st' := [.int (-1), .int (nI (i))]) (w2 := compW T S P U O1 B Q C R2 tl rf) rfl ?_
  refine ev_top (y := zI (-1)) (by decide) ?_
  refine ev_top2 (y := zI (((i : Nat) : Int))) (zI_nat _).symm ?_
  refine ev_icmp_ne_z (tgt := 68) (by constructor <;> omega) (by constructor <;> omega) dX6_printed_55 (by decide) (fun h55 => ?_) (fun h55 => (by exfalso; omega))
  refine ev_b bX6_printed_68_73 (lv' := [(2, .int (nI (wK S (1023)))), (0, .ref 0), (1, .int (nI (i)))]) (st' := [.int (nI (i)), .ref 45]) (w2 := compW T S P U O1 B Q C R2 tl rf) rfl ?_
  refine ev_callVN (Yc := mX2_signAt) [45, 46] dX6_printed_73 tn_846 kX2_signAt (m_X2_signAt R2 (txtL S) i hR2 (by omega) hi) rfl (st := []) rfl rfl rfl (by decide) hw_comp__45 (by decide) (Nat.le_of_ble_eq_true rfl) (Nat.le_refl _) (Nat.le_refl _) (fun r w' h => by obtain ⟨-, rfl⟩ := h; exact Nat.le_of_ble_eq_true rfl) ?_
  rintro _ _ ⟨rfl, rfl⟩
  refine ev_eq (lv' := [(2, .int (nI (wK S (1023)))), (0, .ref 0), (1, .int (nI (i)))]) (st' := [.int (zI (prZ (txtL S) i))]) (w' := compW T S P U O1 B Q C R2 tl rf) rfl rfl xp_comp__45 ?_
  exact ev_iret dX6_printed_76 rfl (Nat.le_refl 49) (Nat.le_refl _) (Nat.le_refl _) ⟨rfl, _, _, _, _, _, _, rfl, hQ, rfl, rfl⟩
