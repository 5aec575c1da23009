/-! ===== packs: sets of bids that are on, with no item in common ===== -/
theorem tb_or (m b k : Nat) : (m ||| 1 <<< b).testBit k = (m.testBit k || decide (b = k)) := by
  rw [Nat.testBit_or, Nat.one_shiftLeft, Nat.testBit_two_pow]
theorem tb_lt {m b : Nat} (h : m < 2 ^ b) {k : Nat} (hk : b ≤ k) : m.testBit k = false := Nat.testBit_lt_two_pow (Nat.lt_of_lt_of_le h (Nat.pow_le_pow_right (by decide) hk))
theorem prTo_or {pr : Nat → Nat} {m b : Nat} (h : m.testBit b = false) : ∀ n, prTo pr (m ||| 1 <<< b) n = prTo pr m n + if b < n then pr b else 0
  | 0 => by simp [prTo]
  | n + 1 => by
    rw [prTo_s, prTo_s, prTo_or h n, tb_or]
    by_cases hb : b = n
    · subst hb
      simp [h]
    · by_cases hn : b < n
      · have h1 : b < n + 1 := by omega
        simp only [hb, decide_false, Bool.or_false, hn, h1, if_true]
        omega
      · have h1 : ¬ b < n + 1 := by omega
        simp only [hb, decide_false, Bool.or_false, hn, h1, if_false]
        omega
theorem itTo_or {st : Nat → Nat} {m b : Nat} (h : m.testBit b = false) : ∀ n, itTo st (m ||| 1 <<< b) n = if b < n then itTo st m n ||| st b else itTo st m n
  | 0 => by simp [itTo]
  | n + 1 => by
    rw [itTo_s, itTo_s, itTo_or h n, tb_or]
    by_cases hb : b = n
    · subst hb
      simp [h]
    · have e : decide (b = n) = false := by simp [hb]
      rw [e, Bool.or_false]
      by_cases hn : b < n
      · have h1 : b < n + 1 := by omega
        rw [if_pos hn, if_pos h1]
        split
        · rw [Nat.or_assoc, Nat.or_assoc, Nat.or_comm (st b) (st n)]
        · rfl
      · have h1 : ¬ b < n + 1 := by omega
        rw [if_neg hn, if_neg h1]
theorem prTo_zero {pr : Nat → Nat} : ∀ n, prTo pr 0 n = 0
  | 0 => rfl
  | n + 1 => by rw [prTo_s, prTo_zero n]; simp
theorem itTo_zero {st : Nat → Nat} : ∀ n, itTo st 0 n = 0
  | 0 => rfl
  | n + 1 => by rw [itTo_s, itTo_zero n]; simp
theorem and_no {x y : Nat} (h : x &&& y = 0) (k : Nat) : ¬ (x.testBit k = true ∧ y.testBit k = true) := by
  intro hh
  have h1 : (x &&& y).testBit k = false := by rw [h]; exact Nat.zero_testBit k
  rw [Nat.testBit_and, hh.1, hh.2] at h1
  cases h1
theorem rb_or {rs : Nat → Nat} {x y : Nat} (h : x &&& y = 0) : ∀ n, rbTo rs (x ||| y) n + rsTo rs y n = rbTo rs x n
  | 0 => rfl
  | n + 1 => by
    rw [rbTo_s, rsTo_s, rbTo_s, Nat.testBit_or]
    have h1 := rb_or (rs := rs) h n
    have h2 := and_no h n
    cases hx : x.testBit n <;> cases hy : y.testBit n
    · simp; omega
    · simp; omega
    · simp; omega
    · exact absurd ⟨hx, hy⟩ h2
theorem pop_or {x y : Nat} (h : x &&& y = 0) : ∀ n, popTo (x ||| y) n = popTo x n + popTo y n
  | 0 => rfl
  | n + 1 => by
    rw [popTo_s, popTo_s, popTo_s, Nat.testBit_or]
    have h1 := pop_or h n
    have h2 := and_no h n
    cases hx : x.testBit n <;> cases hy : y.testBit n
    · simp [b01]; omega
    · simp [b01]; omega
    · simp [b01]; omega
    · exact absurd ⟨hx, hy⟩ h2
theorem pop_pos {y : Nat} : ∀ n, y < 2 ^ n → 0 < y → 0 < popTo y n
  | 0, h, h0 => by
    have : y < 1 := h
    omega
  | n + 1, h, h0 => by
    rw [popTo_s]
    cases hb : y.testBit n with
    | true => simp [b01]
    | false =>
      have h1 : y < 2 ^ n := by
        apply Nat.lt_pow_two_of_testBit
        intro i hi
        by_cases hin : i = n
        · rw [hin]; exact hb
        · exact tb_lt h (by omega)
      have := pop_pos n h1 h0
      omega
def joinsN (S : SaleN) (b : Nat) (L : List Nat) : List Nat := (L.filter (fun m => decide (itTo S.st m S.ca &&& S.st b = 0))).map (fun m => m ||| 1 <<< b)
def packsN (S : SaleN) : Nat → List Nat
  | 0 => [0]
  | b + 1 => if S.ac.testBit b = true then packsN S b ++ joinsN S b (packsN S b) else packsN S b
theorem packsN_s {S : SaleN} {b : Nat} : packsN S (b + 1) = if S.ac.testBit b = true then packsN S b ++ joinsN S b (packsN S b) else packsN S b := rfl
def worthN (S : SaleN) (m : Nat) : Nat := prTo S.pr m S.ca + rbTo S.rs (itTo S.st m S.ca) 6
theorem joinsN_len (S : SaleN) (b : Nat) (L : List Nat) : (joinsN S b L).length ≤ L.length := by
  unfold joinsN
  rw [List.length_map]
  exact List.length_filter_le _ _
theorem packsN_len (S : SaleN) : ∀ b, (packsN S b).length ≤ 2 ^ b
  | 0 => Nat.le_refl _
  | b + 1 => by
    rw [packsN_s, Nat.pow_succ]
    have h1 := packsN_len S b
    have h2 := joinsN_len S b (packsN S b)
    split
    · rw [List.length_append]; omega
    · omega
theorem packsN_lt (S : SaleN) : ∀ b m, m ∈ packsN S b → m < 2 ^ b
  | 0, m, h => by
    rw [List.mem_singleton.mp h]
    decide
  | b + 1, m, h => by
    have hp : (2 : Nat) ^ b < 2 ^ (b + 1) := Nat.pow_lt_pow_right (by decide) (by omega)
    rw [packsN_s] at h
    split at h
    · rcases List.mem_append.mp h with h | h
      · exact Nat.lt_trans (packsN_lt S b m h) hp
      · obtain ⟨m0, h1, rfl⟩ := List.mem_map.mp h
        exact or_lt (Nat.lt_trans (packsN_lt S b m0 (List.mem_filter.mp h1).1) hp) (shl_lt (by omega))
    · exact Nat.lt_trans (packsN_lt S b m h) hp
theorem packsN_pr {S : SaleN} (hS : SaleOK S) : ∀ b, b ≤ S.ca → ∀ m, m ∈ packsN S b → prTo S.pr m S.ca ≤ 99 * popTo (itTo S.st m S.ca) 6
  | 0, _, m, h => by
    rw [List.mem_singleton.mp h, prTo_zero]
    exact Nat.zero_le _
  | b + 1, hb, m, h => by
    rw [packsN_s] at h
    split at h
    · rcases List.mem_append.mp h with h | h
      · exact packsN_pr hS b (by omega) m h
      · obtain ⟨m0, h1, rfl⟩ := List.mem_map.mp h
        obtain ⟨h2, h3⟩ := List.mem_filter.mp h1
        have h3 := of_decide_eq_true h3
        have h4 : m0.testBit b = false := tb_lt (packsN_lt S b m0 h2) (Nat.le_refl _)
        have h5 := packsN_pr hS b (by omega) m0 h2
        obtain ⟨-, k1, k2, k3⟩ := hS.2.2.1 b (by omega)
        rw [prTo_or h4, itTo_or h4, if_pos (by omega), if_pos (by omega), pop_or h3]
        have h6 := pop_pos 6 k2 k1
        omega
    · exact packsN_pr hS b (by omega) m h
theorem worthN_le {S : SaleN} (hS : SaleOK S) {b m : Nat} (hb : b ≤ S.ca) (hm : m ∈ packsN S b) : worthN S m ≤ 648 := by
  have h1 := packsN_pr hS b hb m hm
  have h2 := popTo_le (itTo S.st m S.ca) 6
  have h3 := rbTo_le (rs := S.rs) (items := itTo S.st m S.ca) 6 (Nat.le_refl _) hS.2.2.2.2
  unfold worthN
  omega
/-- the packs stand in the rows -/
def OutIs (O : OutN) (S : SaleN) (L : List Nat) : Prop := O.pc = L.length ∧ ∀ p m, L[p]? = some m → O.pk p = m ∧ O.it p = itTo S.st m S.ca ∧ O.wo p = worthN S m
def addO (O : OutN) (b i w : Nat) : OutN := (up O.pk O.pc b, up O.it O.pc i, up O.wo O.pc w, O.ke, O.pc + 1, O.sz)
theorem OutIs.push {O : OutN} {S : SaleN} {L : List Nat} (h : OutIs O S L) {m i w : Nat} (hi : i = itTo S.st m S.ca) (hw : w = worthN S m) : OutIs (addO O m i w) S (L ++ [m]) := by
  refine ⟨by show O.pc + 1 = _; rw [h.1, List.length_append]; rfl, fun p q hq => ?_⟩
  show up O.pk O.pc m p = q ∧ up O.it O.pc i p = _ ∧ up O.wo O.pc w p = _
  by_cases hp : p = O.pc
  · subst hp
    rw [h.1, List.getElem?_append_right (Nat.le_refl _), Nat.sub_self] at hq
    have hq : m = q := Option.some.inj hq
    subst hq
    rw [up_at, up_at, up_at]
    exact ⟨rfl, hi, hw⟩
  · rw [up_ne hp, up_ne hp, up_ne hp]
    by_cases hl : p < L.length
    · rw [List.getElem?_append_left hl] at hq
      exact h.2 p q hq
    · rw [List.getElem?_append_right (by omega)] at hq
      have : p - L.length < 1 := (List.getElem?_eq_some_iff.mp hq).1
      have := h.1
      omega
theorem gp_zero {O : OutN} {S : SaleN} (hO : O.pc = 0) {w : Nat} (hw : w = rbTo S.rs 0 6) : OutIs (addO O 0 0 w) S (packsN S 0) := by
  have h : OutIs O S [] := ⟨hO, fun p m h => by simp at h⟩
  refine h.push (itTo_zero _).symm ?_
  unfold worthN
  rw [prTo_zero, itTo_zero, hw, Nat.zero_add]
theorem gp_at {O : OutN} {S : SaleN} {k q : Nat} {J : List Nat} (h : OutIs O S (packsN S k ++ J)) (hq : q < (packsN S k).length) (hJ : J.length ≤ q) (hk : k < S.ca) (hS : SaleOK S) : ∃ m, (packsN S k)[q]? = some m ∧ m < 2 ^ k ∧ m.testBit k = false ∧ m ∈ packsN S k ∧ O.pk q = m ∧ O.it q = itTo S.st m S.ca ∧ O.wo q = worthN S m ∧ O.pc < 1024 := by
  have h1 := List.getElem?_eq_getElem hq
  have h2 : (packsN S k ++ J)[q]? = some (packsN S k)[q] := by rw [List.getElem?_append_left hq, h1]
  have h3 := h.2 q _ h2
  have hm := List.mem_of_getElem? h1
  refine ⟨_, h1, packsN_lt S k _ hm, tb_lt (packsN_lt S k _ hm) (Nat.le_refl _), hm, h3.1, h3.2.1, h3.2.2, ?_⟩
  have h4 := packsN_len S k
  have h5 := h.1
  rw [List.length_append] at h5
  have h6 : (2 : Nat) ^ k ≤ 2 ^ 9 := Nat.pow_le_pow_right (by decide) (by have := hS.1; omega)
  have h7 : (2 : Nat) ^ 9 = 512 := by decide
  omega
theorem joins_take {S : SaleN} {b q m : Nat} {L : List Nat} (h : L[q]? = some m) : joinsN S b (L.take (q + 1)) = joinsN S b (L.take q) ++ if itTo S.st m S.ca &&& S.st b = 0 then [m ||| 1 <<< b] else [] := by
  have h1 : L.take (q + 1) = L.take q ++ [m] := by
    rw [List.take_add_one, h]
    rfl
  unfold joinsN
  rw [h1, List.filter_append, List.map_append]
  congr 1
  by_cases hc : itTo S.st m S.ca &&& S.st b = 0
  · simp [hc]
  · simp [hc]
theorem joins_take_len {S : SaleN} {b q : Nat} {L : List Nat} : (joinsN S b (L.take q)).length ≤ q := Nat.le_trans (joinsN_len _ _ _) (by rw [List.length_take]; omega)
theorem gp_worth {S : SaleN} {k m : Nat} (hm : m.testBit k = false) (hk : k < S.ca) (hd : itTo S.st m S.ca &&& S.st k = 0) : ((worthN S m : Nat) : Int) + (((S.pr k : Nat) : Int) - ((rsTo S.rs (S.st k) 6 : Nat) : Int)) = ((worthN S (m ||| 1 <<< k) : Nat) : Int) := by
  unfold worthN
  rw [prTo_or hm, itTo_or hm, if_pos hk, if_pos hk]
  have := rb_or (rs := S.rs) hd 6
  omega
theorem gp_add {O : OutN} {S : SaleN} {k q m : Nat} (h : OutIs O S (packsN S k ++ joinsN S k ((packsN S k).take q))) (hm : (packsN S k)[q]? = some m) (hb : m.testBit k = false) (hk : k < S.ca) (hd : itTo S.st m S.ca &&& S.st k = 0) {b i w : Nat} (eb : b = m ||| 1 <<< k) (ei : i = itTo S.st m S.ca ||| S.st k) (ew : w = worthN S (m ||| 1 <<< k)) : OutIs (addO O b i w) S (packsN S k ++ joinsN S k ((packsN S k).take (q + 1))) := by
  rw [joins_take hm, if_pos hd, ← List.append_assoc]
  subst eb
  exact h.push (by rw [ei, itTo_or hb, if_pos hk]) ew
theorem gp_skip {O : OutN} {S : SaleN} {k q m : Nat} (h : OutIs O S (packsN S k ++ joinsN S k ((packsN S k).take q))) (hm : (packsN S k)[q]? = some m) (hd : ¬ itTo S.st m S.ca &&& S.st k = 0) : OutIs O S (packsN S k ++ joinsN S k ((packsN S k).take (q + 1))) := by
  rw [joins_take hm, if_neg hd, List.append_nil]
  exact h
theorem gp_in {O : OutN} {S : SaleN} {k : Nat} (h : OutIs O S (packsN S k)) : OutIs O S (packsN S k ++ joinsN S k ((packsN S k).take 0)) := by
  have : joinsN S k ((packsN S k).take 0) = [] := rfl
  rw [this, List.append_nil]
  exact h
theorem gp_out {O : OutN} {S : SaleN} {k n : Nat} (hn : n = (packsN S k).length) (hb : S.ac.testBit k = true) (h : OutIs O S (packsN S k ++ joinsN S k ((packsN S k).take n))) : OutIs O S (packsN S (k + 1)) := by
  rw [packsN_s, if_pos hb]
  rw [hn, List.take_length] at h
  exact h
theorem gp_no {O : OutN} {S : SaleN} {k : Nat} (hb : ¬ S.ac.testBit k = true) (h : OutIs O S (packsN S k)) : OutIs O S (packsN S (k + 1)) := by
  rw [packsN_s, if_neg hb]
  exact h
/-! keys -/
def keyS (S : SaleN) (m : Nat) : Nat := keyN m (worthN S m)
def keysOf (S : SaleN) (L : List Nat) : List Nat := (L.filter (fun m => decide (allS S m))).map (keyS S)
def KeysL (O : OutN) (K : List Nat) : Prop := O.sz = K.length ∧ ∀ p m, K[p]? = some m → O.ke p = m
def keyO (O : OutN) (k : Nat) : OutN := (O.pk, O.it, O.wo, up O.ke O.sz k, O.pc, O.sz + 1)
theorem keys_take {S : SaleN} {q m : Nat} {L : List Nat} (h : L[q]? = some m) : keysOf S (L.take (q + 1)) = keysOf S (L.take q) ++ if allS S m then [keyS S m] else [] := by
  have h1 : L.take (q + 1) = L.take q ++ [m] := by
    rw [List.take_add_one, h]
    rfl
  unfold keysOf
  rw [h1, List.filter_append, List.map_append]
  congr 1
  by_cases hc : allS S m
  · rw [if_pos hc, List.filter_cons_of_pos (by exact decide_eq_true hc)]
    rfl
  · rw [if_neg hc, List.filter_cons_of_neg (by rw [decide_eq_false hc]; decide)]
    rfl
theorem keysOf_len {S : SaleN} {L : List Nat} : (keysOf S L).length ≤ L.length := by
  unfold keysOf
  rw [List.length_map]
  exact List.length_filter_le _ _
theorem KeysL.push {O : OutN} {K : List Nat} (h : KeysL O K) {m : Nat} : KeysL (keyO O m) (K ++ [m]) := by
  refine ⟨by show O.sz + 1 = _; rw [h.1, List.length_append]; rfl, fun p q hq => ?_⟩
  show up O.ke O.sz m p = q
  by_cases hp : p = O.sz
  · subst hp
    rw [h.1, List.getElem?_append_right (Nat.le_refl _), Nat.sub_self] at hq
    rw [up_at]
    exact Option.some.inj hq
  · rw [up_ne hp]
    by_cases hl : p < K.length
    · rw [List.getElem?_append_left hl] at hq
      exact h.2 p q hq
    · rw [List.getElem?_append_right (by omega)] at hq
      have : p - K.length < 1 := (List.getElem?_eq_some_iff.mp hq).1
      have := h.1
      omega
theorem gk_at {O : OutN} {S : SaleN} {q : Nat} (h : OutIs O S (packsN S S.ca)) (hk : KeysL O (keysOf S ((packsN S S.ca).take q))) (hq : q < O.pc) (hS : SaleOK S) : ∃ m, (packsN S S.ca)[q]? = some m ∧ m ∈ packsN S S.ca ∧ O.pk q = m ∧ m < 1024 ∧ O.wo q = worthN S m ∧ worthN S m ≤ 1023 ∧ O.sz < 1024 ∧ q < 1024 := by
  rw [h.1] at hq
  have h1 := List.getElem?_eq_getElem hq
  have h3 := h.2 q _ h1
  have hm := List.mem_of_getElem? h1
  have h4 := packsN_lt S S.ca _ hm
  have h5 : (2 : Nat) ^ S.ca ≤ 2 ^ 10 := Nat.pow_le_pow_right (by decide) hS.1
  have h6 : (2 : Nat) ^ 10 = 1024 := by decide
  have h7 := packsN_len S S.ca
  have h8 := worthN_le hS (Nat.le_refl _) hm
  have h9 := hk.1
  have h10 := keysOf_len (S := S) (L := (packsN S S.ca).take q)
  rw [List.length_take] at h10
  exact ⟨_, h1, hm, h3.1, by omega, h3.2.2, by omega, by omega, by omega⟩
theorem gk_out {O : OutN} {S : SaleN} {n : Nat} (h : KeysL O (keysOf S ((packsN S S.ca).take n))) (hn : n = (packsN S S.ca).length) : KeysL O (keysOf S (packsN S S.ca)) := by
  rw [hn, List.take_length] at h
  exact h
theorem ac_lt {S : SaleN} (hS : SaleOK S) : S.ac < 2147483648 := by
  have h1 := hS.2.1
  have h2 : (2 : Nat) ^ S.ca ≤ 2 ^ 10 := Nat.pow_le_pow_right (by decide) hS.1
  have h3 : (2 : Nat) ^ 10 = 1024 := by decide
  omega
theorem pc_lt2 {O : OutN} {S : SaleN} {k : Nat} (h : OutIs O S (packsN S k)) (hk : k < S.ca) (hS : SaleOK S) : O.pc ≤ 512 := by
  have h1 := packsN_len S k
  have h2 : (2 : Nat) ^ k ≤ 2 ^ 9 := Nat.pow_le_pow_right (by decide) (by have := hS.1; omega)
  have h3 : (2 : Nat) ^ 9 = 512 := by decide
  have h4 := h.1
  omega
theorem pc_lt {O : OutN} {S : SaleN} {k : Nat} (h : OutIs O S (packsN S k)) (hk : k < S.ca) (hS : SaleOK S) : O.pc < 2147483648 := by
  have := pc_lt2 h hk hS
  omega
theorem pc_le {O : OutN} {S : SaleN} (h : OutIs O S (packsN S S.ca)) (hS : SaleOK S) : O.pc ≤ 1024 := by
  have h1 := packsN_len S S.ca
  have h2 : (2 : Nat) ^ S.ca ≤ 2 ^ 10 := Nat.pow_le_pow_right (by decide) hS.1
  have h3 : (2 : Nat) ^ 10 = 1024 := by decide
  have h4 := h.1
  omega

theorem bX1_addPack_0_7 {l : Launch} {E : XE} : Snd l E mX1_addPack 0 7 (xs [x_aload 0, x_get 2 4, x_push (.int (nI 1024))]) := Snd.cons (snd_aload_n (i := 0) dX1_addPack_0 rfl) (Snd.cons (snd_get (ci := 2) (k := 4) dX1_addPack_1 rfl inX1 (by decide) tw_80) (Snd.cons (snd_sipush (v := nI 1024) dX1_addPack_4 (by decide)) Snd.nil))
theorem bX1_addPack_10_19 {l : Launch} {E : XE} : Snd l E mX1_addPack 10 19 (xs [x_aload 0, x_get 2 0, x_aload 0, x_get 2 4, x_iload 1]) := Snd.cons (snd_aload_n (i := 0) dX1_addPack_10 rfl) (Snd.cons (snd_get (ci := 2) (k := 0) dX1_addPack_11 rfl inX1 (by decide) tw_76) (Snd.cons (snd_aload_n (i := 0) dX1_addPack_14 rfl) (Snd.cons (snd_get (ci := 2) (k := 4) dX1_addPack_15 rfl inX1 (by decide) tw_80) (Snd.cons (snd_iload_n (i := 1) dX1_addPack_18 rfl) Snd.nil))))
theorem bX1_addPack_20_29 {l : Launch} {E : XE} : Snd l E mX1_addPack 20 29 (xs [x_aload 0, x_get 2 1, x_aload 0, x_get 2 4, x_iload 2]) := Snd.cons (snd_aload_n (i := 0) dX1_addPack_20 rfl) (Snd.cons (snd_get (ci := 2) (k := 1) dX1_addPack_21 rfl inX1 (by decide) tw_77) (Snd.cons (snd_aload_n (i := 0) dX1_addPack_24 rfl) (Snd.cons (snd_get (ci := 2) (k := 4) dX1_addPack_25 rfl inX1 (by decide) tw_80) (Snd.cons (snd_iload_n (i := 2) dX1_addPack_28 rfl) Snd.nil))))
theorem bX1_addPack_30_39 {l : Launch} {E : XE} : Snd l E mX1_addPack 30 39 (xs [x_aload 0, x_get 2 2, x_aload 0, x_get 2 4, x_iload 3]) := Snd.cons (snd_aload_n (i := 0) dX1_addPack_30 rfl) (Snd.cons (snd_get (ci := 2) (k := 2) dX1_addPack_31 rfl inX1 (by decide) tw_78) (Snd.cons (snd_aload_n (i := 0) dX1_addPack_34 rfl) (Snd.cons (snd_get (ci := 2) (k := 4) dX1_addPack_35 rfl inX1 (by decide) tw_80) (Snd.cons (snd_iload_n (i := 3) dX1_addPack_38 rfl) Snd.nil))))
theorem bX1_addPack_40_46 {l : Launch} {E : XE} : Snd l E mX1_addPack 40 46 (xs [x_aload 0, x_dup, x_get 2 4, x_push (.int (nI 1))]) := Snd.cons (snd_aload_n (i := 0) dX1_addPack_40 rfl) (Snd.cons (snd_dup dX1_addPack_41) (Snd.cons (snd_get (ci := 2) (k := 4) dX1_addPack_42 rfl inX1 (by decide) tw_80) (Snd.cons (snd_iconst (v := nI 1) dX1_addPack_45 (by decide)) Snd.nil)))
theorem bX1_addPack_47_50 {l : Launch} {E : XE} : Snd l E mX1_addPack 47 50 (xs [x_puti 2 4]) := Snd.cons (snd_puti (ci := 2) (k := 4) dX1_addPack_47 rfl inX1 tyX1_ok nmX1 (by decide) tw_80 rfl rfl) Snd.nil
set_option maxHeartbeats 4000000 in
set_option maxRecDepth 100000 in
theorem m_X1_addPack {l : Launch} {E : XE} (O : OutN) (b i w : Nat) (hp : O.pc < 1024) : MetE l E mX1_addPack (0) 0 0 [.ref 0, .int (nI (b)), .int (nI (i)), .int (nI (w))] (outW 0 O) (fun r w' => r = none ∧ w' = outW 0 (addO O b i w)) := by
  refine MetE.of (by decide +kernel) (Nat.le_of_ble_eq_true rfl) ?_
  refine ev_eq (lv' := [(0, .ref 0), (1, .int (nI (b))), (2, .int (nI (i))), (3, .int (nI (w)))]) (st' := []) (w' := outW 0 O) rfl rfl rfl ?_
  refine ev_b bX1_addPack_0_7 (lv' := [(0, .ref 0), (1, .int (nI (b))), (2, .int (nI (i))), (3, .int (nI (w)))]) (st' := [.int (nI (1024)), .int (nI (O.pc))]) (w2 := outW 0 O) rfl ?_
  refine ev_icmp_ge_n (tgt := 50) (by omega) (by decide) dX1_addPack_7 (by decide) (fun h7 => (by exfalso; omega)) (fun h7 => ?_)
  refine ev_b bX1_addPack_10_19 (lv' := [(0, .ref 0), (1, .int (nI (b))), (2, .int (nI (i))), (3, .int (nI (w)))]) (st' := [.int (nI (b)), .int (nI (O.pc)), .ref 1]) (w2 := outW 0 O) rfl ?_
  refine ev_iast_n (f := O.pk) dX1_addPack_19 rfl (by omega) (by decide) ?_
  refine ev_eq (w' := outW 0 ((up O.pk O.pc b, O.it, O.wo, O.ke, O.pc, O.sz) : OutN)) rfl rfl rfl ?_
  refine ev_b bX1_addPack_20_29 (lv' := [(0, .ref 0), (1, .int (nI (b))), (2, .int (nI (i))), (3, .int (nI (w)))]) (st' := [.int (nI (i)), .int (nI (O.pc)), .ref 2]) (w2 := outW 0 ((up O.pk O.pc b, O.it, O.wo, O.ke, O.pc, O.sz) : OutN)) rfl ?_
  refine ev_iast_n (f := O.it) dX1_addPack_29 rfl (by omega) (by decide) ?_
  refine ev_eq (w' := outW 0 ((up O.pk O.pc b, up O.it O.pc i, O.wo, O.ke, O.pc, O.sz) : OutN)) rfl rfl rfl ?_
  refine ev_b bX1_addPack_30_39 (lv' := [(0, .ref 0), (1, .int (nI (b))), (2, .int (nI (i))), (3, .int (nI (w)))]) (st' := [.int (nI (w)), .int (nI (O.pc)), .ref 3]) (w2 := outW 0 ((up O.pk O.pc b, up O.it O.pc i, O.wo, O.ke, O.pc, O.sz) : OutN)) rfl ?_
  refine ev_iast_n (f := O.wo) dX1_addPack_39 rfl (by omega) (by decide) ?_
  refine ev_eq (w' := outW 0 ((up O.pk O.pc b, up O.it O.pc i, up O.wo O.pc w, O.ke, O.pc, O.sz) : OutN)) rfl rfl rfl ?_
  refine ev_b bX1_addPack_40_46 (lv' := [(0, .ref 0), (1, .int (nI (b))), (2, .int (nI (i))), (3, .int (nI (w)))]) (st' := [.int (nI (1)), .int (nI (O.pc)), .ref 0]) (w2 := outW 0 ((up O.pk O.pc b, up O.it O.pc i, up O.wo O.pc w, O.ke, O.pc, O.sz) : OutN)) rfl ?_
  refine ev_iadd_n dX1_addPack_46 ?_
  refine ev_b bX1_addPack_47_50 (lv' := [(0, .ref 0), (1, .int (nI (b))), (2, .int (nI (i))), (3, .int (nI (w)))]) (st' := []) (w2 := outW 0 ((up O.pk O.pc b, up O.it O.pc i, up O.wo O.pc w, O.ke, O.pc + 1, O.sz) : OutN)) rfl ?_
  exact ev_vret dX1_addPack_50 rfl (Nat.le_of_ble_eq_true rfl) (Nat.le_refl _) (Nat.le_refl _) ⟨rfl, (by rfl)⟩
theorem bX1_gatherPacks_0_10 {l : Launch} {E : XE} : Snd l E mX1_gatherPacks 0 10 (xs [x_aload 0, x_push (.int (nI 0)), x_puti 2 4, x_aload 0, x_push (.int (nI 0)), x_push (.int (nI 0)), x_aload 1, x_push (.int (nI 0))]) := Snd.cons (snd_aload_n (i := 0) dX1_gatherPacks_0 rfl) (Snd.cons (snd_iconst (v := nI 0) dX1_gatherPacks_1 (by decide)) (Snd.cons (snd_puti (ci := 2) (k := 4) dX1_gatherPacks_2 rfl inX1 tyX1_ok nmX1 (by decide) tw_80 rfl rfl) (Snd.cons (snd_aload_n (i := 0) dX1_gatherPacks_5 rfl) (Snd.cons (snd_iconst (v := nI 0) dX1_gatherPacks_6 (by decide)) (Snd.cons (snd_iconst (v := nI 0) dX1_gatherPacks_7 (by decide)) (Snd.cons (snd_aload_n (i := 1) dX1_gatherPacks_8 rfl) (Snd.cons (snd_iconst (v := nI 0) dX1_gatherPacks_9 (by decide)) Snd.nil)))))))
theorem bX1_gatherPacks_16_18 {l : Launch} {E : XE} : Snd l E mX1_gatherPacks 16 18 (xs [x_push (.int (nI 0)), x_istore 2]) := Snd.cons (snd_iconst (v := nI 0) dX1_gatherPacks_16 (by decide)) (Snd.cons (snd_istore_n (i := 2) dX1_gatherPacks_17 rfl (by decide)) Snd.nil)
theorem bX1_gatherPacks_18_23 {l : Launch} {E : XE} : Snd l E mX1_gatherPacks 18 23 (xs [x_iload 2, x_aload 1, x_get 4 7]) := Snd.cons (snd_iload_n (i := 2) dX1_gatherPacks_18 rfl) (Snd.cons (snd_aload_n (i := 1) dX1_gatherPacks_19 rfl) (Snd.cons (snd_getN (ci := 4) (k := 7) dX1_gatherPacks_20 rfl inX3 (by decide) tn_45) Snd.nil))
theorem bX1_gatherPacks_26_31 {l : Launch} {E : XE} : Snd l E mX1_gatherPacks 26 31 (xs [x_aload 1, x_get 4 8, x_iload 2]) := Snd.cons (snd_aload_n (i := 1) dX1_gatherPacks_26 rfl) (Snd.cons (snd_getN (ci := 4) (k := 8) dX1_gatherPacks_27 rfl inX3 (by decide) tn_49) (Snd.cons (snd_iload_n (i := 2) dX1_gatherPacks_30 rfl) Snd.nil))
theorem bX1_gatherPacks_34_35 {l : Launch} {E : XE} : Snd l E mX1_gatherPacks 34 35 (xs [x_push (.int (nI 1))]) := Snd.cons (snd_iconst (v := nI 1) dX1_gatherPacks_34 (by decide)) Snd.nil
theorem bX1_gatherPacks_138_18 {l : Launch} {E : XE} : Snd l E mX1_gatherPacks 138 18 (xs [x_id]) := Snd.cons (snd_goto (tgt := 18) dX1_gatherPacks_138 (by decide)) Snd.nil
theorem bX1_gatherPacks_38_40 {l : Launch} {E : XE} : Snd l E mX1_gatherPacks 38 40 (xs [x_aload 1, x_iload 2]) := Snd.cons (snd_aload_n (i := 1) dX1_gatherPacks_38 rfl) (Snd.cons (snd_iload_n (i := 2) dX1_gatherPacks_39 rfl) Snd.nil)
theorem bX1_gatherPacks_43_46 {l : Launch} {E : XE} : Snd l E mX1_gatherPacks 43 46 (xs [x_istore 3, x_aload 1, x_iload 2]) := Snd.cons (snd_istore_n (i := 3) dX1_gatherPacks_43 rfl (by decide)) (Snd.cons (snd_aload_n (i := 1) dX1_gatherPacks_44 rfl) (Snd.cons (snd_iload_n (i := 2) dX1_gatherPacks_45 rfl) Snd.nil))
theorem bX1_gatherPacks_49_53 {l : Launch} {E : XE} : Snd l E mX1_gatherPacks 49 53 (xs [x_aload 1, x_iload 3, x_push (.int (-1)), x_i2 (fun x y => x ^^^ y)]) := Snd.cons (snd_aload_n (i := 1) dX1_gatherPacks_49 rfl) (Snd.cons (snd_iload_n (i := 3) dX1_gatherPacks_50 rfl) (Snd.cons (snd_iconst (v := -1) dX1_gatherPacks_51 (by decide)) (Snd.cons (snd_ixor dX1_gatherPacks_52) Snd.nil)))
theorem bX1_gatherPacks_57_68 {l : Launch} {E : XE} : Snd l E mX1_gatherPacks 57 68 (xs [x_istore 4, x_aload 0, x_get 2 4, x_istore 5, x_push (.int (nI 0)), x_istore 6]) := Snd.cons (snd_istore dX1_gatherPacks_57 (by decide)) (Snd.cons (snd_aload_n (i := 0) dX1_gatherPacks_59 rfl) (Snd.cons (snd_get (ci := 2) (k := 4) dX1_gatherPacks_60 rfl inX1 (by decide) tw_80) (Snd.cons (snd_istore dX1_gatherPacks_63 (by decide)) (Snd.cons (snd_iconst (v := nI 0) dX1_gatherPacks_65 (by decide)) (Snd.cons (snd_istore dX1_gatherPacks_66 (by decide)) Snd.nil)))))
theorem bX1_gatherPacks_68_72 {l : Launch} {E : XE} : Snd l E mX1_gatherPacks 68 72 (xs [x_iload 6, x_iload 5]) := Snd.cons (snd_iload dX1_gatherPacks_68) (Snd.cons (snd_iload dX1_gatherPacks_70) Snd.nil)
theorem bX1_gatherPacks_75_80 {l : Launch} {E : XE} : Snd l E mX1_gatherPacks 75 80 (xs [x_iload 6, x_push (.int (nI 1024))]) := Snd.cons (snd_iload dX1_gatherPacks_75) (Snd.cons (snd_sipush (v := nI 1024) dX1_gatherPacks_77 (by decide)) Snd.nil)
theorem bX1_gatherPacks_83_89 {l : Launch} {E : XE} : Snd l E mX1_gatherPacks 83 89 (xs [x_aload 0, x_get 2 1, x_iload 6]) := Snd.cons (snd_aload_n (i := 0) dX1_gatherPacks_83 rfl) (Snd.cons (snd_get (ci := 2) (k := 1) dX1_gatherPacks_84 rfl inX1 (by decide) tw_77) (Snd.cons (snd_iload dX1_gatherPacks_87) Snd.nil))
theorem bX1_gatherPacks_90_91 {l : Launch} {E : XE} : Snd l E mX1_gatherPacks 90 91 (xs [x_iload 3]) := Snd.cons (snd_iload_n (i := 3) dX1_gatherPacks_90 rfl) Snd.nil
theorem bX1_gatherPacks_132_68 {l : Launch} {E : XE} : Snd l E mX1_gatherPacks 132 68 (xs [x_id]) := Snd.cons (snd_goto (tgt := 68) dX1_gatherPacks_132 (by decide)) Snd.nil
theorem bX1_gatherPacks_95_102 {l : Launch} {E : XE} : Snd l E mX1_gatherPacks 95 102 (xs [x_aload 0, x_aload 0, x_get 2 0, x_iload 6]) := Snd.cons (snd_aload_n (i := 0) dX1_gatherPacks_95 rfl) (Snd.cons (snd_aload_n (i := 0) dX1_gatherPacks_96 rfl) (Snd.cons (snd_get (ci := 2) (k := 0) dX1_gatherPacks_97 rfl inX1 (by decide) tw_76) (Snd.cons (snd_iload dX1_gatherPacks_100) Snd.nil)))
theorem bX1_gatherPacks_103_105 {l : Launch} {E : XE} : Snd l E mX1_gatherPacks 103 105 (xs [x_push (.int (nI 1)), x_iload 2]) := Snd.cons (snd_iconst (v := nI 1) dX1_gatherPacks_103 (by decide)) (Snd.cons (snd_iload_n (i := 2) dX1_gatherPacks_104 rfl) Snd.nil)
theorem bX1_gatherPacks_107_113 {l : Launch} {E : XE} : Snd l E mX1_gatherPacks 107 113 (xs [x_aload 0, x_get 2 1, x_iload 6]) := Snd.cons (snd_aload_n (i := 0) dX1_gatherPacks_107 rfl) (Snd.cons (snd_get (ci := 2) (k := 1) dX1_gatherPacks_108 rfl inX1 (by decide) tw_77) (Snd.cons (snd_iload dX1_gatherPacks_111) Snd.nil))
theorem bX1_gatherPacks_114_115 {l : Launch} {E : XE} : Snd l E mX1_gatherPacks 114 115 (xs [x_iload 3]) := Snd.cons (snd_iload_n (i := 3) dX1_gatherPacks_114 rfl) Snd.nil
theorem bX1_gatherPacks_116_122 {l : Launch} {E : XE} : Snd l E mX1_gatherPacks 116 122 (xs [x_aload 0, x_get 2 2, x_iload 6]) := Snd.cons (snd_aload_n (i := 0) dX1_gatherPacks_116 rfl) (Snd.cons (snd_get (ci := 2) (k := 2) dX1_gatherPacks_117 rfl inX1 (by decide) tw_78) (Snd.cons (snd_iload dX1_gatherPacks_120) Snd.nil))
theorem bX1_gatherPacks_123_125 {l : Launch} {E : XE} : Snd l E mX1_gatherPacks 123 125 (xs [x_iload 4]) := Snd.cons (snd_iload dX1_gatherPacks_123) Snd.nil
set_option maxHeartbeats 4000000 in
set_option maxRecDepth 100000 in
theorem m_X1_gatherPacks {l : Launch} {E : XE} (O : OutN) (S : SaleN) (hS : SaleOK S) : MetE l E mX1_gatherPacks (2) 0 0 [.ref 0, .ref 5] (outW 0 O ++ saleW 5 S) (fun r w' => r = none ∧ ∃ O' : OutN, w' = outW 0 O' ++ saleW 5 S ∧ OutIs O' S (packsN S S.ca) ∧ O'.ke = O.ke ∧ O'.sz = O.sz) := by
  refine MetE.of (by decide +kernel) (Nat.le_of_ble_eq_true rfl) ?_
  have hca := hS.1
  refine ev_eq (lv' := [(0, .ref 0), (1, .ref 5)]) (st' := []) (w' := outW 0 O ++ saleW 5 S) rfl rfl rfl ?_
  refine ev_b bX1_gatherPacks_0_10 (lv' := [(0, .ref 0), (1, .ref 5)]) (st' := [.int (nI (0)), .ref 5, .int (nI (0)), .int (nI (0)), .ref 0]) (w2 := outW 0 ((O.pk, O.it, O.wo, O.ke, 0, O.sz) : OutN) ++ saleW 5 S) rfl ?_
  refine ev_callVN (Yc := mX3_reservesBut) [5, 6, 7, 8, 9, 10, 11, 12] dX1_gatherPacks_10 tn_505 kX3_reservesBut (m_X3_reservesBut S 0 (by decide)) rfl (st := [.int (nI (0)), .int (nI (0)), .ref 0]) rfl rfl rfl (by decide) hw_Out0_Sale5__5 (by decide) (Nat.le_of_ble_eq_true rfl) (Nat.le_refl _) (Nat.le_refl _) (fun r w' h => by obtain ⟨-, rfl⟩ := h; exact Nat.le_of_ble_eq_true rfl) ?_
  rintro _ _ ⟨rfl, rfl⟩
  refine ev_eq (lv' := [(0, .ref 0), (1, .ref 5)]) (st' := [.int (nI (rbTo S.rs 0 6)), .int (nI (0)), .int (nI (0)), .ref 0]) (w' := outW 0 ((O.pk, O.it, O.wo, O.ke, 0, O.sz) : OutN) ++ saleW 5 S) rfl rfl xp_Out0_Sale5__5 ?_
  refine ev_callV (Yc := mX1_addPack) [0, 1, 2, 3, 4] dX1_gatherPacks_13 tw_510 kX1_addPack (m_X1_addPack _ 0 0 _ (by show 0 < 1024; decide)) rfl (st := []) rfl rfl rfl (by decide) hw_Out0_Sale5__0 (by decide) (Nat.le_of_ble_eq_true rfl) (Nat.le_refl _) (Nat.le_refl _) (fun r w' h => by obtain ⟨-, rfl⟩ := h; exact Nat.le_of_ble_eq_true rfl) ?_
  rintro _ _ ⟨rfl, rfl⟩
  refine ev_eq (lv' := [(0, .ref 0), (1, .ref 5)]) (st' := []) (w' := outW 0 (addO ((O.pk, O.it, O.wo, O.ke, 0, O.sz) : OutN) 0 0 (rbTo S.rs 0 6)) ++ saleW 5 S) rfl rfl xp_Out0_Sale5__0 ?_
  refine ev_b bX1_gatherPacks_16_18 (lv' := [(2, .int (nI (0))), (0, .ref 0), (1, .ref 5)]) (st' := []) (w2 := outW 0 (addO ((O.pk, O.it, O.wo, O.ke, 0, O.sz) : OutN) 0 0 (rbTo S.rs 0 6)) ++ saleW 5 S) rfl ?_
  have L18 : ∀ (j_ k : Nat), k + j_ = S.ca → ∀ (O1 : OutN), (OutIs O1 S (packsN S k) ∧ O1.ke = O.ke ∧ O1.sz = O.sz) → Ev l E mX1_gatherPacks (2) 0 0 (outW 0 O ++ saleW 5 S) (fun r w' => r = none ∧ ∃ O' : OutN, w' = outW 0 O' ++ saleW 5 S ∧ OutIs O' S (packsN S S.ca) ∧ O'.ke = O.ke ∧ O'.sz = O.sz) 0 0 18 [(2, .int (nI (k))), (0, .ref 0), (1, .ref 5)] [] (outW 0 O1 ++ saleW 5 S) := by
    intro j_
    induction j_ with
    | zero =>
      intro k hk18 O1 hinv18
      replace hk18 : k = S.ca := hk18
      subst hk18
      have hac := ac_lt hS
      refine ev_b bX1_gatherPacks_18_23 (lv' := [(2, .int (nI (S.ca))), (0, .ref 0), (1, .ref 5)]) (st' := [.int (nI (S.ca)), .int (nI (S.ca))]) (w2 := outW 0 O1 ++ saleW 5 S) rfl ?_
      refine ev_icmp_ge_n (tgt := 141) (by omega) (by omega) dX1_gatherPacks_23 (by decide) (fun h23 => ?_) (fun h23 => (by exfalso; omega))
      exact ev_vret dX1_gatherPacks_141 rfl (Nat.le_of_ble_eq_true rfl) (Nat.le_refl _) (Nat.le_refl _) ⟨rfl, _, rfl, hinv18.1, hinv18.2⟩
    | succ j_ ih18 =>
      intro k hk18 O1 hinv18
      have hlt18 : k < S.ca := by omega
      have hac := ac_lt hS
      refine ev_b bX1_gatherPacks_18_23 (lv' := [(2, .int (nI (k))), (0, .ref 0), (1, .ref 5)]) (st' := [.int (nI (S.ca)), .int (nI (k))]) (w2 := outW 0 O1 ++ saleW 5 S) rfl ?_
      refine ev_icmp_ge_n (tgt := 141) (by omega) (by omega) dX1_gatherPacks_23 (by decide) (fun h23 => (by exfalso; omega)) (fun h23 => ?_)
      refine ev_b bX1_gatherPacks_26_31 (lv' := [(2, .int (nI (k))), (0, .ref 0), (1, .ref 5)]) (st' := [.int (nI (k)), .int (nI (S.ac))]) (w2 := outW 0 O1 ++ saleW 5 S) rfl ?_
      refine ev_callSN (Yc := mX6_bitAt) [] dX1_gatherPacks_31 tn_514 kX6_bitAt (m_X6_bitAt S.ac k hac (by omega)) rfl (st := []) rfl (by decide) rfl (by decide) (Nat.le_of_ble_eq_true rfl) (Nat.le_refl _) (Nat.le_refl _) (fun r w' h => by obtain ⟨-, rfl⟩ := h; exact Nat.le_of_ble_eq_true rfl) ?_
      rintro _ _ ⟨rfl, rfl⟩
      refine ev_eq (lv' := [(2, .int (nI (k))), (0, .ref 0), (1, .ref 5)]) (st' := [.int (nI (b01 (S.ac.testBit k = true)))]) (w' := outW 0 O1 ++ saleW 5 S) rfl rfl rfl ?_
      refine ev_b bX1_gatherPacks_34_35 (lv' := [(2, .int (nI (k))), (0, .ref 0), (1, .ref 5)]) (st' := [.int (nI (1)), .int (nI (b01 (S.ac.testBit k = true)))]) (w2 := outW 0 O1 ++ saleW 5 S) rfl ?_
      refine ev_icmpne_b1 (tgt := 135) dX1_gatherPacks_35 (by decide) (fun h35 => ?_) (fun h35 => ?_)
      · skip
        have hnext : OutIs O1 S (packsN S (k + 1)) ∧ O1.ke = O.ke ∧ O1.sz = O.sz := ⟨gp_no h35 hinv18.1, hinv18.2⟩
        refine ev_iinc_n (x := k) (v := 1) dX1_gatherPacks_135 rfl (by decide) ?_
        refine ev_eq (lv' := [(2, .int (nI (k + 1))), (0, .ref 0), (1, .ref 5)]) rfl rfl rfl ?_
        refine ev_b bX1_gatherPacks_138_18 (lv' := [(2, .int (nI (k + 1))), (0, .ref 0), (1, .ref 5)]) (st' := []) (w2 := outW 0 O1 ++ saleW 5 S) rfl ?_
        rw [show nI (k + 1) = nI ((k + 1)) from congrArg nI (by omega)]
        exact ih18 (k + 1) (by omega) O1 hnext
      · skip
        refine ev_b bX1_gatherPacks_38_40 (lv' := [(2, .int (nI (k))), (0, .ref 0), (1, .ref 5)]) (st' := [.int (nI (k)), .ref 5]) (w2 := outW 0 O1 ++ saleW 5 S) rfl ?_
        refine ev_callVN (Yc := mX3_setOf) [5, 6, 7, 8, 9, 10, 11, 12] dX1_gatherPacks_40 tn_515 kX3_setOf (m_X3_setOf S k hS hlt18) rfl (st := []) rfl rfl rfl (by decide) hw_Out0_Sale5__5 (by decide) (Nat.le_of_ble_eq_true rfl) (Nat.le_refl _) (Nat.le_refl _) (fun r w' h => by obtain ⟨-, rfl⟩ := h; exact Nat.le_of_ble_eq_true rfl) ?_
        rintro _ _ ⟨rfl, rfl⟩
        refine ev_eq (lv' := [(2, .int (nI (k))), (0, .ref 0), (1, .ref 5)]) (st' := [.int (nI (S.st k))]) (w' := outW 0 O1 ++ saleW 5 S) rfl rfl xp_Out0_Sale5__5 ?_
        refine ev_b bX1_gatherPacks_43_46 (lv' := [(3, .int (nI (S.st k))), (2, .int (nI (k))), (0, .ref 0), (1, .ref 5)]) (st' := [.int (nI (k)), .ref 5]) (w2 := outW 0 O1 ++ saleW 5 S) rfl ?_
        refine ev_callVN (Yc := mX3_priceOf) [5, 6, 7, 8, 9, 10, 11, 12] dX1_gatherPacks_46 tn_516 kX3_priceOf (m_X3_priceOf S k hS hlt18) rfl (st := []) rfl rfl rfl (by decide) hw_Out0_Sale5__5 (by decide) (Nat.le_of_ble_eq_true rfl) (Nat.le_refl _) (Nat.le_refl _) (fun r w' h => by obtain ⟨-, rfl⟩ := h; exact Nat.le_of_ble_eq_true rfl) ?_
        rintro _ _ ⟨rfl, rfl⟩
        refine ev_eq (lv' := [(3, .int (nI (S.st k))), (2, .int (nI (k))), (0, .ref 0), (1, .ref 5)]) (st' := [.int (nI (S.pr k))]) (w' := outW 0 O1 ++ saleW 5 S) rfl rfl xp_Out0_Sale5__5 ?_
        refine ev_b bX1_gatherPacks_49_53 (lv' := [(3, .int (nI (S.st k))), (2, .int (nI (k))), (0, .ref 0), (1, .ref 5)]) (st' := [.int (nI (S.st k) ^^^ (-1)), .ref 5, .int (nI (S.pr k))]) (w2 := outW 0 O1 ++ saleW 5 S) rfl ?_
        refine ev_callVN (Yc := mX3_reservesBut) [5, 6, 7, 8, 9, 10, 11, 12] dX1_gatherPacks_53 tn_505 kX3_reservesBut (m_X3_reservesBut_not S (S.st k)) rfl (st := [.int (nI (S.pr k))]) rfl rfl rfl (by decide) hw_Out0_Sale5__5 (by decide) (Nat.le_of_ble_eq_true rfl) (Nat.le_refl _) (Nat.le_refl _) (fun r w' h => by obtain ⟨-, rfl⟩ := h; exact Nat.le_of_ble_eq_true rfl) ?_
        rintro _ _ ⟨rfl, rfl⟩
        refine ev_eq (lv' := [(3, .int (nI (S.st k))), (2, .int (nI (k))), (0, .ref 0), (1, .ref 5)]) (st' := [.int (nI (rsTo S.rs (S.st k) 6)), .int (nI (S.pr k))]) (w' := outW 0 O1 ++ saleW 5 S) rfl rfl xp_Out0_Sale5__5 ?_
        refine ev_top (y := zI (((rsTo S.rs (S.st k) 6 : Nat) : Int))) (zI_nat _).symm ?_
        refine ev_top2 (y := zI (((S.pr k : Nat) : Int))) (zI_nat _).symm ?_
        refine ev_isub_z dX1_gatherPacks_56 ?_
        refine ev_b bX1_gatherPacks_57_68 (lv' := [(6, .int (nI (0))), (5, .int (nI (O1.pc))), (4, .int (zI ((((S.pr k : Nat) : Int)) - (((rsTo S.rs (S.st k) 6 : Nat) : Int))))), (3, .int (nI (S.st k))), (2, .int (nI (k))), (0, .ref 0), (1, .ref 5)]) (st' := []) (w2 := outW 0 O1 ++ saleW 5 S) rfl ?_
        have L68 : ∀ (j_ q : Nat), q + j_ = O1.pc → ∀ (O2 : OutN), (OutIs O2 S (packsN S k ++ joinsN S k ((packsN S k).take q)) ∧ O2.ke = O.ke ∧ O2.sz = O.sz) → Ev l E mX1_gatherPacks (2) 0 0 (outW 0 O ++ saleW 5 S) (fun r w' => r = none ∧ ∃ O' : OutN, w' = outW 0 O' ++ saleW 5 S ∧ OutIs O' S (packsN S S.ca) ∧ O'.ke = O.ke ∧ O'.sz = O.sz) 0 0 68 [(6, .int (nI (q))), (0, .ref 0), (1, .ref 5), (2, .int (nI (k))), (3, .int (nI (S.st k))), (4, .int (zI ((((S.pr k : Nat) : Int)) - (((rsTo S.rs (S.st k) 6 : Nat) : Int))))), (5, .int (nI (O1.pc)))] [] (outW 0 O2 ++ saleW 5 S) := by
          intro j_
          induction j_ with
          | zero =>
            intro q hk68 O2 hinv68
            replace hk68 : q = O1.pc := hk68
            have hnext : OutIs O2 S (packsN S (k + 1)) ∧ O2.ke = O.ke ∧ O2.sz = O.sz := ⟨gp_out (n := q) (by rw [hk68]; exact hinv18.1.1) h35 hinv68.1, hinv68.2⟩
            have hpcb : O1.pc < 2147483648 := pc_lt hinv18.1 hlt18 hS
            refine ev_b bX1_gatherPacks_68_72 (lv' := [(6, .int (nI (q))), (0, .ref 0), (1, .ref 5), (2, .int (nI (k))), (3, .int (nI (S.st k))), (4, .int (zI ((((S.pr k : Nat) : Int)) - (((rsTo S.rs (S.st k) 6 : Nat) : Int))))), (5, .int (nI (O1.pc)))]) (st' := [.int (nI (O1.pc)), .int (nI (q))]) (w2 := outW 0 O2 ++ saleW 5 S) rfl ?_
            refine ev_icmp_ge_n (tgt := 135) (by omega) (by omega) dX1_gatherPacks_72 (by decide) (fun h72 => ?_) (fun h72 => (by exfalso; omega))
            refine ev_iinc_n (x := k) (v := 1) dX1_gatherPacks_135 rfl (by decide) ?_
            refine ev_eq (lv' := [(2, .int (nI (k + 1))), (6, .int (nI (q))), (0, .ref 0), (1, .ref 5), (3, .int (nI (S.st k))), (4, .int (zI ((((S.pr k : Nat) : Int)) - (((rsTo S.rs (S.st k) 6 : Nat) : Int))))), (5, .int (nI (O1.pc)))]) rfl rfl rfl ?_
            refine ev_b bX1_gatherPacks_138_18 (lv' := [(2, .int (nI (k + 1))), (6, .int (nI (q))), (0, .ref 0), (1, .ref 5), (3, .int (nI (S.st k))), (4, .int (zI ((((S.pr k : Nat) : Int)) - (((rsTo S.rs (S.st k) 6 : Nat) : Int))))), (5, .int (nI (O1.pc)))]) (st' := []) (w2 := outW 0 O2 ++ saleW 5 S) rfl ?_
            refine ev_pick (lv' := [(2, .int (nI (k + 1))), (0, .ref 0), (1, .ref 5)]) rfl ?_
            rw [show nI (k + 1) = nI ((k + 1)) from congrArg nI (by omega)]
            exact ih18 (k + 1) (by omega) O2 hnext
          | succ j_ ih68 =>
            intro q hk68 O2 hinv68
            have hlt68 : q < O1.pc := by omega
            have hpcb : O1.pc < 2147483648 := pc_lt hinv18.1 hlt18 hS
            have hpc9 := pc_lt2 hinv18.1 hlt18 hS
            obtain ⟨m, em, elt, eb, emem, ep, ei, ew, epc⟩ := gp_at hinv68.1 (by rw [← hinv18.1.1]; exact hlt68) joins_take_len hlt18 hS
            have hst := (hS.2.2.1 k hlt18).2.2.1
            refine ev_b bX1_gatherPacks_68_72 (lv' := [(6, .int (nI (q))), (0, .ref 0), (1, .ref 5), (2, .int (nI (k))), (3, .int (nI (S.st k))), (4, .int (zI ((((S.pr k : Nat) : Int)) - (((rsTo S.rs (S.st k) 6 : Nat) : Int))))), (5, .int (nI (O1.pc)))]) (st' := [.int (nI (O1.pc)), .int (nI (q))]) (w2 := outW 0 O2 ++ saleW 5 S) rfl ?_
            refine ev_icmp_ge_n (tgt := 135) (by omega) (by omega) dX1_gatherPacks_72 (by decide) (fun h72 => (by exfalso; omega)) (fun h72 => ?_)
            refine ev_b bX1_gatherPacks_75_80 (lv' := [(6, .int (nI (q))), (0, .ref 0), (1, .ref 5), (2, .int (nI (k))), (3, .int (nI (S.st k))), (4, .int (zI ((((S.pr k : Nat) : Int)) - (((rsTo S.rs (S.st k) 6 : Nat) : Int))))), (5, .int (nI (O1.pc)))]) (st' := [.int (nI (1024)), .int (nI (q))]) (w2 := outW 0 O2 ++ saleW 5 S) rfl ?_
            refine ev_icmp_ge_n (tgt := 135) (by omega) (by decide) dX1_gatherPacks_80 (by decide) (fun h80 => (by exfalso; omega)) (fun h80 => ?_)
            refine ev_b bX1_gatherPacks_83_89 (lv' := [(6, .int (nI (q))), (0, .ref 0), (1, .ref 5), (2, .int (nI (k))), (3, .int (nI (S.st k))), (4, .int (zI ((((S.pr k : Nat) : Int)) - (((rsTo S.rs (S.st k) 6 : Nat) : Int))))), (5, .int (nI (O1.pc)))]) (st' := [.int (nI (q)), .ref 2]) (w2 := outW 0 O2 ++ saleW 5 S) rfl ?_
            refine ev_iald_n (f := O2.it) dX1_gatherPacks_89 rfl (by omega) (by decide) ?_
            refine ev_b bX1_gatherPacks_90_91 (lv' := [(6, .int (nI (q))), (0, .ref 0), (1, .ref 5), (2, .int (nI (k))), (3, .int (nI (S.st k))), (4, .int (zI ((((S.pr k : Nat) : Int)) - (((rsTo S.rs (S.st k) 6 : Nat) : Int))))), (5, .int (nI (O1.pc)))]) (st' := [.int (nI (S.st k)), .int (nI (O2.it q))]) (w2 := outW 0 O2 ++ saleW 5 S) rfl ?_
            refine ev_iand_n dX1_gatherPacks_91 ?_
            refine ev_if_ne_n (tgt := 129) (by exact Nat.lt_of_le_of_lt Nat.and_le_right (by omega)) dX1_gatherPacks_92 (by decide) (fun h92 => ?_) (fun h92 => ?_)
            · skip
              have hq2 : OutIs O2 S (packsN S k ++ joinsN S k ((packsN S k).take (q + 1))) := gp_skip hinv68.1 em (by rw [← ei]; exact h92)
              refine ev_iinc_n (x := q) (v := 1) dX1_gatherPacks_129 rfl (by decide) ?_
              refine ev_eq (lv' := [(6, .int (nI (q + 1))), (0, .ref 0), (1, .ref 5), (2, .int (nI (k))), (3, .int (nI (S.st k))), (4, .int (zI ((((S.pr k : Nat) : Int)) - (((rsTo S.rs (S.st k) 6 : Nat) : Int))))), (5, .int (nI (O1.pc)))]) rfl rfl rfl ?_
              refine ev_b bX1_gatherPacks_132_68 (lv' := [(6, .int (nI (q + 1))), (0, .ref 0), (1, .ref 5), (2, .int (nI (k))), (3, .int (nI (S.st k))), (4, .int (zI ((((S.pr k : Nat) : Int)) - (((rsTo S.rs (S.st k) 6 : Nat) : Int))))), (5, .int (nI (O1.pc)))]) (st' := []) (w2 := outW 0 O2 ++ saleW 5 S) rfl ?_
              rw [show nI (q + 1) = nI ((q + 1)) from congrArg nI (by omega)]
              exact ih68 (q + 1) (by omega) O2 ⟨hq2, hinv68.2⟩
            · skip
              have hd : itTo S.st m S.ca &&& S.st k = 0 := by rw [← ei]; exact h92
              refine ev_b bX1_gatherPacks_95_102 (lv' := [(6, .int (nI (q))), (0, .ref 0), (1, .ref 5), (2, .int (nI (k))), (3, .int (nI (S.st k))), (4, .int (zI ((((S.pr k : Nat) : Int)) - (((rsTo S.rs (S.st k) 6 : Nat) : Int))))), (5, .int (nI (O1.pc)))]) (st' := [.int (nI (q)), .ref 1, .ref 0]) (w2 := outW 0 O2 ++ saleW 5 S) rfl ?_
              refine ev_iald_n (f := O2.pk) dX1_gatherPacks_102 rfl (by omega) (by decide) ?_
              refine ev_b bX1_gatherPacks_103_105 (lv' := [(6, .int (nI (q))), (0, .ref 0), (1, .ref 5), (2, .int (nI (k))), (3, .int (nI (S.st k))), (4, .int (zI ((((S.pr k : Nat) : Int)) - (((rsTo S.rs (S.st k) 6 : Nat) : Int))))), (5, .int (nI (O1.pc)))]) (st' := [.int (nI (k)), .int (nI (1)), .int (nI (O2.pk q)), .ref 0]) (w2 := outW 0 O2 ++ saleW 5 S) rfl ?_
              refine ev_ishl_n (by omega) dX1_gatherPacks_105 ?_
              refine ev_ior_n dX1_gatherPacks_106 ?_
              refine ev_b bX1_gatherPacks_107_113 (lv' := [(6, .int (nI (q))), (0, .ref 0), (1, .ref 5), (2, .int (nI (k))), (3, .int (nI (S.st k))), (4, .int (zI ((((S.pr k : Nat) : Int)) - (((rsTo S.rs (S.st k) 6 : Nat) : Int))))), (5, .int (nI (O1.pc)))]) (st' := [.int (nI (q)), .ref 2, .int (nI ((O2.pk q) ||| (1 <<< k))), .ref 0]) (w2 := outW 0 O2 ++ saleW 5 S) rfl ?_
              refine ev_iald_n (f := O2.it) dX1_gatherPacks_113 rfl (by omega) (by decide) ?_
              refine ev_b bX1_gatherPacks_114_115 (lv' := [(6, .int (nI (q))), (0, .ref 0), (1, .ref 5), (2, .int (nI (k))), (3, .int (nI (S.st k))), (4, .int (zI ((((S.pr k : Nat) : Int)) - (((rsTo S.rs (S.st k) 6 : Nat) : Int))))), (5, .int (nI (O1.pc)))]) (st' := [.int (nI (S.st k)), .int (nI (O2.it q)), .int (nI ((O2.pk q) ||| (1 <<< k))), .ref 0]) (w2 := outW 0 O2 ++ saleW 5 S) rfl ?_
              refine ev_ior_n dX1_gatherPacks_115 ?_
              refine ev_b bX1_gatherPacks_116_122 (lv' := [(6, .int (nI (q))), (0, .ref 0), (1, .ref 5), (2, .int (nI (k))), (3, .int (nI (S.st k))), (4, .int (zI ((((S.pr k : Nat) : Int)) - (((rsTo S.rs (S.st k) 6 : Nat) : Int))))), (5, .int (nI (O1.pc)))]) (st' := [.int (nI (q)), .ref 3, .int (nI ((O2.it q) ||| (S.st k))), .int (nI ((O2.pk q) ||| (1 <<< k))), .ref 0]) (w2 := outW 0 O2 ++ saleW 5 S) rfl ?_
              refine ev_iald_n (f := O2.wo) dX1_gatherPacks_122 rfl (by omega) (by decide) ?_
              refine ev_b bX1_gatherPacks_123_125 (lv' := [(6, .int (nI (q))), (0, .ref 0), (1, .ref 5), (2, .int (nI (k))), (3, .int (nI (S.st k))), (4, .int (zI ((((S.pr k : Nat) : Int)) - (((rsTo S.rs (S.st k) 6 : Nat) : Int))))), (5, .int (nI (O1.pc)))]) (st' := [.int (zI ((((S.pr k : Nat) : Int)) - (((rsTo S.rs (S.st k) 6 : Nat) : Int)))), .int (nI (O2.wo q)), .int (nI ((O2.it q) ||| (S.st k))), .int (nI ((O2.pk q) ||| (1 <<< k))), .ref 0]) (w2 := outW 0 O2 ++ saleW 5 S) rfl ?_
              refine ev_top2 (y := zI (((O2.wo q : Nat) : Int))) (zI_nat _).symm ?_
              refine ev_iadd_z dX1_gatherPacks_125 ?_
              refine ev_top (y := (nI (worthN S (O2.pk q ||| 1 <<< k)))) (by rw [show (((O2.wo q : Nat) : Int)) + ((((S.pr k : Nat) : Int)) - (((rsTo S.rs (S.st k) 6 : Nat) : Int))) = ((worthN S (O2.pk q ||| 1 <<< k) : Nat) : Int) from by rw [ew, ep]; exact gp_worth eb hlt18 hd]; exact zI_nat _) ?_
              refine ev_callV (Yc := mX1_addPack) [0, 1, 2, 3, 4] dX1_gatherPacks_126 tw_510 kX1_addPack (m_X1_addPack O2 (O2.pk q ||| 1 <<< k) (O2.it q ||| S.st k) (worthN S (O2.pk q ||| 1 <<< k)) epc) rfl (st := []) rfl rfl rfl (by decide) hw_Out0_Sale5__0 (by decide) (Nat.le_of_ble_eq_true rfl) (Nat.le_refl _) (Nat.le_refl _) (fun r w' h => by obtain ⟨-, rfl⟩ := h; exact Nat.le_of_ble_eq_true rfl) ?_
              rintro _ _ ⟨rfl, rfl⟩
              refine ev_eq (lv' := [(6, .int (nI (q))), (0, .ref 0), (1, .ref 5), (2, .int (nI (k))), (3, .int (nI (S.st k))), (4, .int (zI ((((S.pr k : Nat) : Int)) - (((rsTo S.rs (S.st k) 6 : Nat) : Int))))), (5, .int (nI (O1.pc)))]) (st' := []) (w' := outW 0 (addO O2 (O2.pk q ||| 1 <<< k) (O2.it q ||| S.st k) (worthN S (O2.pk q ||| 1 <<< k))) ++ saleW 5 S) rfl rfl xp_Out0_Sale5__0 ?_
              have hq2 := gp_add hinv68.1 em eb hlt18 hd (b := O2.pk q ||| 1 <<< k) (i := O2.it q ||| S.st k) (w := worthN S (O2.pk q ||| 1 <<< k)) (by rw [ep]) (by rw [ei]) (by rw [ep])
              refine ev_iinc_n (x := q) (v := 1) dX1_gatherPacks_129 rfl (by decide) ?_
              refine ev_eq (lv' := [(6, .int (nI (q + 1))), (0, .ref 0), (1, .ref 5), (2, .int (nI (k))), (3, .int (nI (S.st k))), (4, .int (zI ((((S.pr k : Nat) : Int)) - (((rsTo S.rs (S.st k) 6 : Nat) : Int))))), (5, .int (nI (O1.pc)))]) rfl rfl rfl ?_
              refine ev_b bX1_gatherPacks_132_68 (lv' := [(6, .int (nI (q + 1))), (0, .ref 0), (1, .ref 5), (2, .int (nI (k))), (3, .int (nI (S.st k))), (4, .int (zI ((((S.pr k : Nat) : Int)) - (((rsTo S.rs (S.st k) 6 : Nat) : Int))))), (5, .int (nI (O1.pc)))]) (st' := []) (w2 := outW 0 (addO O2 (O2.pk q ||| 1 <<< k) (O2.it q ||| S.st k) (worthN S (O2.pk q ||| 1 <<< k))) ++ saleW 5 S) rfl ?_
              rw [show nI (q + 1) = nI ((q + 1)) from congrArg nI (by omega)]
              exact ih68 (q + 1) (by omega) (addO O2 (O2.pk q ||| 1 <<< k) (O2.it q ||| S.st k) (worthN S (O2.pk q ||| 1 <<< k))) ⟨hq2, hinv68.2⟩
        refine ev_pick (lv' := [(6, .int (nI (0))), (0, .ref 0), (1, .ref 5), (2, .int (nI (k))), (3, .int (nI (S.st k))), (4, .int (zI ((((S.pr k : Nat) : Int)) - (((rsTo S.rs (S.st k) 6 : Nat) : Int))))), (5, .int (nI (O1.pc)))]) rfl ?_
        exact L68 O1.pc 0 (by omega) _ ⟨gp_in hinv18.1, hinv18.2⟩
  exact L18 S.ca 0 (by omega) _ ⟨gp_zero rfl rfl, rfl, rfl⟩
theorem bX1_gather_0_2 {l : Launch} {E : XE} : Snd l E mX1_gather 0 2 (xs [x_aload 0, x_aload 1]) := Snd.cons (snd_aload_n (i := 0) dX1_gather_0 rfl) (Snd.cons (snd_aload_n (i := 1) dX1_gather_1 rfl) Snd.nil)
theorem bX1_gather_5_12 {l : Launch} {E : XE} : Snd l E mX1_gather 5 12 (xs [x_aload 0, x_push (.int (nI 0)), x_puti 2 5, x_push (.int (nI 0)), x_istore 2]) := Snd.cons (snd_aload_n (i := 0) dX1_gather_5 rfl) (Snd.cons (snd_iconst (v := nI 0) dX1_gather_6 (by decide)) (Snd.cons (snd_puti (ci := 2) (k := 5) dX1_gather_7 rfl inX1 tyX1_ok nmX1 (by decide) tw_81 rfl rfl) (Snd.cons (snd_iconst (v := nI 0) dX1_gather_10 (by decide)) (Snd.cons (snd_istore_n (i := 2) dX1_gather_11 rfl (by decide)) Snd.nil))))
theorem bX1_gather_12_17 {l : Launch} {E : XE} : Snd l E mX1_gather 12 17 (xs [x_iload 2, x_aload 0, x_get 2 4]) := Snd.cons (snd_iload_n (i := 2) dX1_gather_12 rfl) (Snd.cons (snd_aload_n (i := 0) dX1_gather_13 rfl) (Snd.cons (snd_get (ci := 2) (k := 4) dX1_gather_14 rfl inX1 (by decide) tw_80) Snd.nil))
theorem bX1_gather_20_24 {l : Launch} {E : XE} : Snd l E mX1_gather 20 24 (xs [x_iload 2, x_push (.int (nI 1024))]) := Snd.cons (snd_iload_n (i := 2) dX1_gather_20 rfl) (Snd.cons (snd_sipush (v := nI 1024) dX1_gather_21 (by decide)) Snd.nil)
theorem bX1_gather_27_34 {l : Launch} {E : XE} : Snd l E mX1_gather 27 34 (xs [x_aload 0, x_get 2 5, x_push (.int (nI 1024))]) := Snd.cons (snd_aload_n (i := 0) dX1_gather_27 rfl) (Snd.cons (snd_get (ci := 2) (k := 5) dX1_gather_28 rfl inX1 (by decide) tw_81) (Snd.cons (snd_sipush (v := nI 1024) dX1_gather_31 (by decide)) Snd.nil))
theorem bX1_gather_37_43 {l : Launch} {E : XE} : Snd l E mX1_gather 37 43 (xs [x_aload 1, x_aload 0, x_get 2 0, x_iload 2]) := Snd.cons (snd_aload_n (i := 1) dX1_gather_37 rfl) (Snd.cons (snd_aload_n (i := 0) dX1_gather_38 rfl) (Snd.cons (snd_get (ci := 2) (k := 0) dX1_gather_39 rfl inX1 (by decide) tw_76) (Snd.cons (snd_iload_n (i := 2) dX1_gather_42 rfl) Snd.nil)))
theorem bX1_gather_87_12 {l : Launch} {E : XE} : Snd l E mX1_gather 87 12 (xs [x_id]) := Snd.cons (snd_goto (tgt := 12) dX1_gather_87 (by decide)) Snd.nil
theorem bX1_gather_50_63 {l : Launch} {E : XE} : Snd l E mX1_gather 50 63 (xs [x_aload 0, x_get 2 3, x_aload 0, x_get 2 5, x_aload 0, x_get 2 0, x_iload 2]) := Snd.cons (snd_aload_n (i := 0) dX1_gather_50 rfl) (Snd.cons (snd_get (ci := 2) (k := 3) dX1_gather_51 rfl inX1 (by decide) tw_79) (Snd.cons (snd_aload_n (i := 0) dX1_gather_54 rfl) (Snd.cons (snd_get (ci := 2) (k := 5) dX1_gather_55 rfl inX1 (by decide) tw_81) (Snd.cons (snd_aload_n (i := 0) dX1_gather_58 rfl) (Snd.cons (snd_get (ci := 2) (k := 0) dX1_gather_59 rfl inX1 (by decide) tw_76) (Snd.cons (snd_iload_n (i := 2) dX1_gather_62 rfl) Snd.nil))))))
theorem bX1_gather_64_69 {l : Launch} {E : XE} : Snd l E mX1_gather 64 69 (xs [x_aload 0, x_get 2 2, x_iload 2]) := Snd.cons (snd_aload_n (i := 0) dX1_gather_64 rfl) (Snd.cons (snd_get (ci := 2) (k := 2) dX1_gather_65 rfl inX1 (by decide) tw_78) (Snd.cons (snd_iload_n (i := 2) dX1_gather_68 rfl) Snd.nil))
theorem bX1_gather_74_80 {l : Launch} {E : XE} : Snd l E mX1_gather 74 80 (xs [x_aload 0, x_dup, x_get 2 5, x_push (.int (nI 1))]) := Snd.cons (snd_aload_n (i := 0) dX1_gather_74 rfl) (Snd.cons (snd_dup dX1_gather_75) (Snd.cons (snd_get (ci := 2) (k := 5) dX1_gather_76 rfl inX1 (by decide) tw_81) (Snd.cons (snd_iconst (v := nI 1) dX1_gather_79 (by decide)) Snd.nil)))
theorem bX1_gather_81_84 {l : Launch} {E : XE} : Snd l E mX1_gather 81 84 (xs [x_puti 2 5]) := Snd.cons (snd_puti (ci := 2) (k := 5) dX1_gather_81 rfl inX1 tyX1_ok nmX1 (by decide) tw_81 rfl rfl) Snd.nil
set_option maxHeartbeats 4000000 in
set_option maxRecDepth 100000 in
theorem m_X1_gather {l : Launch} {E : XE} (O : OutN) (S : SaleN) (hS : SaleOK S) : MetE l E mX1_gather (3) 0 0 [.ref 0, .ref 5] (outW 0 O ++ saleW 5 S) (fun r w' => r = none ∧ ∃ O' : OutN, w' = outW 0 O' ++ saleW 5 S ∧ KeysL O' (keysOf S (packsN S S.ca))) := by
  refine MetE.of (by decide +kernel) (Nat.le_of_ble_eq_true rfl) ?_
  have hca := hS.1
  refine ev_eq (lv' := [(0, .ref 0), (1, .ref 5)]) (st' := []) (w' := outW 0 O ++ saleW 5 S) rfl rfl rfl ?_
  refine ev_b bX1_gather_0_2 (lv' := [(0, .ref 0), (1, .ref 5)]) (st' := [.ref 5, .ref 0]) (w2 := outW 0 O ++ saleW 5 S) rfl ?_
  refine ev_callV (Yc := mX1_gatherPacks) (rng 0 13) dX1_gather_2 tw_501 kX1_gatherPacks (m_X1_gatherPacks O S hS) rfl (st := []) rfl rfl rfl (by decide) (same_hw (outW 0 O ++ saleW 5 S)) (by decide) (Nat.le_of_ble_eq_true rfl) (Nat.le_refl _) (Nat.le_refl _) (fun r w' h => by obtain ⟨-, O', rfl, -⟩ := h; exact Nat.le_of_ble_eq_true rfl) ?_
  rintro _ _ ⟨rfl, O0, rfl, hO0, -, -⟩
  refine ev_eq (lv' := [(0, .ref 0), (1, .ref 5)]) (st' := []) (w' := outW 0 O0 ++ saleW 5 S) rfl rfl (same_xp (outW 0 O ++ saleW 5 S) (outW 0 O0 ++ saleW 5 S) rfl) ?_
  refine ev_b bX1_gather_5_12 (lv' := [(2, .int (nI (0))), (0, .ref 0), (1, .ref 5)]) (st' := []) (w2 := outW 0 ((O0.pk, O0.it, O0.wo, O0.ke, O0.pc, 0) : OutN) ++ saleW 5 S) rfl ?_
  have L12 : ∀ (j_ q : Nat), q + j_ = O0.pc → ∀ (O2 : OutN), ((OutIs O2 S (packsN S S.ca) ∧ O2.pc = O0.pc) ∧ KeysL O2 (keysOf S ((packsN S S.ca).take q))) → Ev l E mX1_gather (3) 0 0 (outW 0 O ++ saleW 5 S) (fun r w' => r = none ∧ ∃ O' : OutN, w' = outW 0 O' ++ saleW 5 S ∧ KeysL O' (keysOf S (packsN S S.ca))) 0 0 12 [(2, .int (nI (q))), (0, .ref 0), (1, .ref 5)] [] (outW 0 O2 ++ saleW 5 S) := by
    intro j_
    induction j_ with
    | zero =>
      intro q hk12 O2 hinv12
      replace hk12 : q = O0.pc := hk12
      have hp0 := hinv12.1.2
      have hpb : O0.pc ≤ 1024 := pc_le hO0 hS
      refine ev_b bX1_gather_12_17 (lv' := [(2, .int (nI (q))), (0, .ref 0), (1, .ref 5)]) (st' := [.int (nI (O2.pc)), .int (nI (q))]) (w2 := outW 0 O2 ++ saleW 5 S) rfl ?_
      refine ev_icmp_ge_n (tgt := 90) (by omega) (by omega) dX1_gather_17 (by decide) (fun h17 => ?_) (fun h17 => (by exfalso; omega))
      exact ev_vret dX1_gather_90 rfl (Nat.le_of_ble_eq_true rfl) (Nat.le_refl _) (Nat.le_refl _) ⟨rfl, _, rfl, gk_out (n := q) hinv12.2 (by rw [hk12]; exact hO0.1)⟩
    | succ j_ ih12 =>
      intro q hk12 O2 hinv12
      have hlt12 : q < O0.pc := by omega
      obtain ⟨m, em, emem, ep, elt, ew, ewl, esz, eq1⟩ := gk_at hinv12.1.1 hinv12.2 (by omega) hS
      have epk : O2.pk q < 1024 := by omega
      rw [← ew] at ewl
      have hp0 := hinv12.1.2
      have hpb : O0.pc ≤ 1024 := pc_le hO0 hS
      refine ev_b bX1_gather_12_17 (lv' := [(2, .int (nI (q))), (0, .ref 0), (1, .ref 5)]) (st' := [.int (nI (O2.pc)), .int (nI (q))]) (w2 := outW 0 O2 ++ saleW 5 S) rfl ?_
      refine ev_icmp_ge_n (tgt := 90) (by omega) (by omega) dX1_gather_17 (by decide) (fun h17 => (by exfalso; omega)) (fun h17 => ?_)
      refine ev_b bX1_gather_20_24 (lv' := [(2, .int (nI (q))), (0, .ref 0), (1, .ref 5)]) (st' := [.int (nI (1024)), .int (nI (q))]) (w2 := outW 0 O2 ++ saleW 5 S) rfl ?_
      refine ev_icmp_ge_n (tgt := 90) (by omega) (by decide) dX1_gather_24 (by decide) (fun h24 => (by exfalso; omega)) (fun h24 => ?_)
      refine ev_b bX1_gather_27_34 (lv' := [(2, .int (nI (q))), (0, .ref 0), (1, .ref 5)]) (st' := [.int (nI (1024)), .int (nI (O2.sz))]) (w2 := outW 0 O2 ++ saleW 5 S) rfl ?_
      refine ev_icmp_ge_n (tgt := 84) (by omega) (by decide) dX1_gather_34 (by decide) (fun h34 => (by exfalso; omega)) (fun h34 => ?_)
      refine ev_b bX1_gather_37_43 (lv' := [(2, .int (nI (q))), (0, .ref 0), (1, .ref 5)]) (st' := [.int (nI (q)), .ref 1, .ref 5]) (w2 := outW 0 O2 ++ saleW 5 S) rfl ?_
      refine ev_iald_n (f := O2.pk) dX1_gather_43 rfl (by omega) (by decide) ?_
      refine ev_callVN (Yc := mX3_allows) [5, 6, 7, 8, 9, 10, 11, 12] dX1_gather_44 tn_517 kX3_allows (m_X3_allows S (O2.pk q) hS epk) rfl (st := []) rfl rfl rfl (by decide) hw_Out0_Sale5__5 (by decide) (Nat.le_of_ble_eq_true rfl) (Nat.le_refl _) (Nat.le_refl _) (fun r w' h => by obtain ⟨-, rfl⟩ := h; exact Nat.le_of_ble_eq_true rfl) ?_
      rintro _ _ ⟨rfl, rfl⟩
      refine ev_eq (lv' := [(2, .int (nI (q))), (0, .ref 0), (1, .ref 5)]) (st' := [.int (nI (b01 (allS S (O2.pk q))))]) (w' := outW 0 O2 ++ saleW 5 S) rfl rfl xp_Out0_Sale5__5 ?_
      refine ev_ifeq_b (tgt := 84) dX1_gather_47 (by decide) (fun h47 => ?_) (fun h47 => ?_)
      · skip
        have hq2 : (OutIs O2 S (packsN S S.ca) ∧ O2.pc = O0.pc) ∧ KeysL O2 (keysOf S ((packsN S S.ca).take (q + 1))) := ⟨hinv12.1, by rw [keys_take em, if_neg (by rw [← ep]; exact h47), List.append_nil]; exact hinv12.2⟩
        refine ev_iinc_n (x := q) (v := 1) dX1_gather_84 rfl (by decide) ?_
        refine ev_eq (lv' := [(2, .int (nI (q + 1))), (0, .ref 0), (1, .ref 5)]) rfl rfl rfl ?_
        refine ev_b bX1_gather_87_12 (lv' := [(2, .int (nI (q + 1))), (0, .ref 0), (1, .ref 5)]) (st' := []) (w2 := outW 0 O2 ++ saleW 5 S) rfl ?_
        rw [show nI (q + 1) = nI ((q + 1)) from congrArg nI (by omega)]
        exact ih12 (q + 1) (by omega) O2 hq2
      · skip
        have hq2 : (OutIs (keyO O2 (keyN (O2.pk q) (O2.wo q))) S (packsN S S.ca) ∧ (keyO O2 (keyN (O2.pk q) (O2.wo q))).pc = O0.pc) ∧ KeysL (keyO O2 (keyN (O2.pk q) (O2.wo q))) (keysOf S ((packsN S S.ca).take (q + 1))) := ⟨hinv12.1, by rw [keys_take em, if_pos (by rw [← ep]; exact h47), show keyN (O2.pk q) (O2.wo q) = keyS S m from by rw [ep, ew]; rfl]; exact hinv12.2.push⟩
        refine ev_b bX1_gather_50_63 (lv' := [(2, .int (nI (q))), (0, .ref 0), (1, .ref 5)]) (st' := [.int (nI (q)), .ref 1, .int (nI (O2.sz)), .ref 4]) (w2 := outW 0 O2 ++ saleW 5 S) rfl ?_
        refine ev_iald_n (f := O2.pk) dX1_gather_63 rfl (by omega) (by decide) ?_
        refine ev_b bX1_gather_64_69 (lv' := [(2, .int (nI (q))), (0, .ref 0), (1, .ref 5)]) (st' := [.int (nI (q)), .ref 3, .int (nI (O2.pk q)), .int (nI (O2.sz)), .ref 4]) (w2 := outW 0 O2 ++ saleW 5 S) rfl ?_
        refine ev_iald_n (f := O2.wo) dX1_gather_69 rfl (by omega) (by decide) ?_
        refine ev_callS (Yc := mX1_keyOf) [] dX1_gather_70 tw_539 kX1_keyOf (m_X1_keyOf (O2.pk q) (O2.wo q) epk ewl) rfl (st := [.int (nI (O2.sz)), .ref 4]) rfl (by decide) rfl (by decide) (Nat.le_of_ble_eq_true rfl) (Nat.le_refl _) (Nat.le_refl _) (fun r w' h => by obtain ⟨-, rfl⟩ := h; exact Nat.le_of_ble_eq_true rfl) ?_
        rintro _ _ ⟨rfl, rfl⟩
        refine ev_eq (lv' := [(2, .int (nI (q))), (0, .ref 0), (1, .ref 5)]) (st' := [.int (nI (keyN (O2.pk q) (O2.wo q))), .int (nI (O2.sz)), .ref 4]) (w' := outW 0 O2 ++ saleW 5 S) rfl rfl rfl ?_
        refine ev_iast_n (f := O2.ke) dX1_gather_73 rfl (by omega) (by decide) ?_
        refine ev_eq (w' := outW 0 ((O2.pk, O2.it, O2.wo, up O2.ke O2.sz (keyN (O2.pk q) (O2.wo q)), O2.pc, O2.sz) : OutN) ++ saleW 5 S) rfl rfl rfl ?_
        refine ev_b bX1_gather_74_80 (lv' := [(2, .int (nI (q))), (0, .ref 0), (1, .ref 5)]) (st' := [.int (nI (1)), .int (nI (O2.sz)), .ref 0]) (w2 := outW 0 ((O2.pk, O2.it, O2.wo, up O2.ke O2.sz (keyN (O2.pk q) (O2.wo q)), O2.pc, O2.sz) : OutN) ++ saleW 5 S) rfl ?_
        refine ev_iadd_n dX1_gather_80 ?_
        refine ev_b bX1_gather_81_84 (lv' := [(2, .int (nI (q))), (0, .ref 0), (1, .ref 5)]) (st' := []) (w2 := outW 0 ((O2.pk, O2.it, O2.wo, up O2.ke O2.sz (keyN (O2.pk q) (O2.wo q)), O2.pc, O2.sz + 1) : OutN) ++ saleW 5 S) rfl ?_
        refine ev_iinc_n (x := q) (v := 1) dX1_gather_84 rfl (by decide) ?_
        refine ev_eq (lv' := [(2, .int (nI (q + 1))), (0, .ref 0), (1, .ref 5)]) rfl rfl rfl ?_
        refine ev_b bX1_gather_87_12 (lv' := [(2, .int (nI (q + 1))), (0, .ref 0), (1, .ref 5)]) (st' := []) (w2 := outW 0 ((O2.pk, O2.it, O2.wo, up O2.ke O2.sz (keyN (O2.pk q) (O2.wo q)), O2.pc, O2.sz + 1) : OutN) ++ saleW 5 S) rfl ?_
        rw [show nI (q + 1) = nI ((q + 1)) from congrArg nI (by omega)]
        exact ih12 (q + 1) (by omega) ((O2.pk, O2.it, O2.wo, up O2.ke O2.sz (keyN (O2.pk q) (O2.wo q)), O2.pc, O2.sz + 1) : OutN) hq2
  exact L12 O0.pc 0 (by omega) _ ⟨⟨hO0, rfl⟩, ⟨rfl, fun p m h => by cases h⟩⟩
theorem bX1_ranked_0_4 {l : Launch} {E : XE} : Snd l E mX1_ranked 0 4 (xs [x_push (.int (-1)), x_istore 2, x_push (.int (nI 0)), x_istore 3]) := Snd.cons (snd_iconst (v := -1) dX1_ranked_0 (by decide)) (Snd.cons (snd_istore_n (i := 2) dX1_ranked_1 rfl (by decide)) (Snd.cons (snd_iconst (v := nI 0) dX1_ranked_2 (by decide)) (Snd.cons (snd_istore_n (i := 3) dX1_ranked_3 rfl (by decide)) Snd.nil)))
theorem bX1_ranked_4_6 {l : Launch} {E : XE} : Snd l E mX1_ranked 4 6 (xs [x_iload 3, x_iload 1]) := Snd.cons (snd_iload_n (i := 3) dX1_ranked_4 rfl) (Snd.cons (snd_iload_n (i := 1) dX1_ranked_5 rfl) Snd.nil)
theorem bX1_ranked_29_30 {l : Launch} {E : XE} : Snd l E mX1_ranked 29 30 (xs [x_iload 2]) := Snd.cons (snd_iload_n (i := 2) dX1_ranked_29 rfl) Snd.nil
theorem bX1_ranked_9_14 {l : Launch} {E : XE} : Snd l E mX1_ranked 9 14 (xs [x_iload 3, x_aload 0, x_get 2 5]) := Snd.cons (snd_iload_n (i := 3) dX1_ranked_9 rfl) (Snd.cons (snd_aload_n (i := 0) dX1_ranked_10 rfl) (Snd.cons (snd_get (ci := 2) (k := 5) dX1_ranked_11 rfl inX1 (by decide) tw_81) Snd.nil))
theorem bX1_ranked_17_19 {l : Launch} {E : XE} : Snd l E mX1_ranked 17 19 (xs [x_aload 0, x_iload 2]) := Snd.cons (snd_aload_n (i := 0) dX1_ranked_17 rfl) (Snd.cons (snd_iload_n (i := 2) dX1_ranked_18 rfl) Snd.nil)
theorem bX1_ranked_22_23 {l : Launch} {E : XE} : Snd l E mX1_ranked 22 23 (xs [x_istore 2]) := Snd.cons (snd_istore_n (i := 2) dX1_ranked_22 rfl (by decide)) Snd.nil
theorem bX1_ranked_26_4 {l : Launch} {E : XE} : Snd l E mX1_ranked 26 4 (xs [x_id]) := Snd.cons (snd_goto (tgt := 4) dX1_ranked_26 (by decide)) Snd.nil
set_option maxHeartbeats 4000000 in
set_option maxRecDepth 100000 in
theorem m_X1_ranked {l : Launch} {E : XE} (O : OutN) (rank : Nat) (hK : KeysOK O) (hr : rank < O.sz) : MetE l E mX1_ranked (2) 0 0 [.ref 0, .int (nI (rank))] (outW 0 O) (fun r w' => r = some (.int (zI (rankTo O (rank + 1)))) ∧ w' = outW 0 O) := by
  refine MetE.of (by decide +kernel) (Nat.le_of_ble_eq_true rfl) ?_
  have hsz := hK.1
  refine ev_eq (lv' := [(0, .ref 0), (1, .int (nI (rank)))]) (st' := []) (w' := outW 0 O) rfl rfl rfl ?_
  refine ev_b bX1_ranked_0_4 (lv' := [(3, .int (nI (0))), (2, .int (-1)), (0, .ref 0), (1, .int (nI (rank)))]) (st' := []) (w2 := outW 0 O) rfl ?_
  have L4 : ∀ (j_ k : Nat), k + j_ = rank + 1 → Ev l E mX1_ranked (2) 0 0 (outW 0 O) (fun r w' => r = some (.int (zI (rankTo O (rank + 1)))) ∧ w' = outW 0 O) 0 0 4 [(3, .int (nI (k))), (2, .int (zI (rankTo O k))), (0, .ref 0), (1, .int (nI (rank)))] [] (outW 0 O) := by
    intro j_
    induction j_ with
    | zero =>
      intro k hk4  
      replace hk4 : k = rank + 1 := hk4
      subst hk4
      refine ev_b bX1_ranked_4_6 (lv' := [(3, .int (nI ((rank + 1)))), (2, .int (zI (rankTo O (rank + 1)))), (0, .ref 0), (1, .int (nI (rank)))]) (st' := [.int (nI (rank)), .int (nI ((rank + 1)))]) (w2 := outW 0 O) rfl ?_
      refine ev_icmp_gt_n (tgt := 29) (by omega) (by omega) dX1_ranked_6 (by decide) (fun h6 => ?_) (fun h6 => (by exfalso; omega))
      refine ev_b bX1_ranked_29_30 (lv' := [(3, .int (nI ((rank + 1)))), (2, .int (zI (rankTo O (rank + 1)))), (0, .ref 0), (1, .int (nI (rank)))]) (st' := [.int (zI (rankTo O (rank + 1)))]) (w2 := outW 0 O) rfl ?_
      exact ev_iret dX1_ranked_30 rfl (Nat.le_of_ble_eq_true rfl) (Nat.le_refl _) (Nat.le_refl _) ⟨rfl, rfl⟩
    | succ j_ ih4 =>
      intro k hk4  
      have hlt4 : k < rank + 1 := by omega
      refine ev_b bX1_ranked_4_6 (lv' := [(3, .int (nI (k))), (2, .int (zI (rankTo O k))), (0, .ref 0), (1, .int (nI (rank)))]) (st' := [.int (nI (rank)), .int (nI (k))]) (w2 := outW 0 O) rfl ?_
      refine ev_icmp_gt_n (tgt := 29) (by omega) (by omega) dX1_ranked_6 (by decide) (fun h6 => (by exfalso; omega)) (fun h6 => ?_)
      refine ev_b bX1_ranked_9_14 (lv' := [(3, .int (nI (k))), (2, .int (zI (rankTo O k))), (0, .ref 0), (1, .int (nI (rank)))]) (st' := [.int (nI (O.sz)), .int (nI (k))]) (w2 := outW 0 O) rfl ?_
      refine ev_icmp_ge_n (tgt := 29) (by omega) (by omega) dX1_ranked_14 (by decide) (fun h14 => (by exfalso; omega)) (fun h14 => ?_)
      refine ev_b bX1_ranked_17_19 (lv' := [(3, .int (nI (k))), (2, .int (zI (rankTo O k))), (0, .ref 0), (1, .int (nI (rank)))]) (st' := [.int (zI (rankTo O k)), .ref 0]) (w2 := outW 0 O) rfl ?_
      refine ev_callV (Yc := mX1_nextAbove) [0, 1, 2, 3, 4] dX1_ranked_19 tw_674 kX1_nextAbove (m_X1_nextAbove O (rankTo O k) hK (rankTo_lt hK k)) rfl (st := []) rfl rfl rfl (by decide) rfl (by decide) (Nat.le_of_ble_eq_true rfl) (Nat.le_refl _) (Nat.le_refl _) (fun r w' h => by obtain ⟨-, rfl⟩ := h; exact Nat.le_of_ble_eq_true rfl) ?_
      rintro _ _ ⟨rfl, rfl⟩
      refine ev_eq (lv' := [(3, .int (nI (k))), (2, .int (zI (rankTo O k))), (0, .ref 0), (1, .int (nI (rank)))]) (st' := [.int (nI (nextTo O.ke (rankTo O k) O.sz))]) (w' := outW 0 O) rfl rfl rfl ?_
      refine ev_b bX1_ranked_22_23 (lv' := [(2, .int (nI (nextTo O.ke (rankTo O k) O.sz))), (3, .int (nI (k))), (0, .ref 0), (1, .int (nI (rank)))]) (st' := []) (w2 := outW 0 O) rfl ?_
      refine ev_iinc_n (x := k) (v := 1) dX1_ranked_23 rfl (by decide) ?_
      refine ev_eq (lv' := [(3, .int (nI (k + 1))), (2, .int (nI (nextTo O.ke (rankTo O k) O.sz))), (0, .ref 0), (1, .int (nI (rank)))]) rfl rfl rfl ?_
      refine ev_b bX1_ranked_26_4 (lv' := [(3, .int (nI (k + 1))), (2, .int (nI (nextTo O.ke (rankTo O k) O.sz))), (0, .ref 0), (1, .int (nI (rank)))]) (st' := []) (w2 := outW 0 O) rfl ?_
      rw [show nI (k + 1) = nI ((k + 1)) from congrArg nI (by omega)]
      rw [show nI (nextTo O.ke (rankTo O k) O.sz) = zI (rankTo O (k + 1)) from by rw [← zI_nat]; exact congrArg zI (by exact rfl)]
      exact ih4 (k + 1) (by omega) 
  rw [show (.int (-1) : Value) = .int (zI (rankTo O 0)) from by exact rfl]
  exact L4 (rank + 1) 0 (by omega) 
