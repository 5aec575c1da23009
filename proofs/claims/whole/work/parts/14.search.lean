abbrev SeaN : Type := (Nat → Nat) × (Nat → Nat) × Nat × Nat × Nat
abbrev SeaN.sh (Q : SeaN) : Nat → Nat := Q.1
abbrev SeaN.od (Q : SeaN) : Nat → Nat := Q.2.1
abbrev SeaN.ln (Q : SeaN) : Nat := Q.2.2.1
abbrev SeaN.lk (Q : SeaN) : Nat := Q.2.2.2.1
abbrev SeaN.fd (Q : SeaN) : Nat := Q.2.2.2.2
def seaW (b : Nat) (Q : SeaN) : AW := [.inr (6, [.ref (b + 1), .ref (b + 2), .int (nI Q.ln), .int (nI Q.lk), .int (nI Q.fd)]), .inl (0, 10, .inl (aI Q.sh)), .inl (0, 10, .inl (aI Q.od))]
/-- one goes ahead of another in THE ORDER only if its price by its items is greater -/
abbrev before (S : SaleN) (a b : Nat) : Prop := S.pr a * pop (S.st b) < S.pr b * pop (S.st a)
def shareN (S : SaleN) (b : Nat) : Nat := 60 * S.pr b / pop (S.st b)
theorem pop64 : ∀ n, n < 64 → 0 < n → 1 ≤ pop n ∧ pop n ≤ 6 := by decide +kernel
theorem share_le {S : SaleN} (hS : SaleOK S) {b : Nat} (hb : b < S.ca) : shareN S b ≤ 5940 := by
  obtain ⟨-, k1, k2, k3⟩ := hS.2.2.1 b hb
  have h1 : shareN S b ≤ 60 * S.pr b := Nat.div_le_self _ _
  omega
theorem share_div {p n : Nat} (h1 : 1 ≤ n) (h2 : n ≤ 6) : 60 * p / n * n = 60 * p := by
  have h : n = 1 ∨ n = 2 ∨ n = 3 ∨ n = 4 ∨ n = 5 ∨ n = 6 := by omega
  rcases h with rfl | rfl | rfl | rfl | rfl | rfl <;> omega
theorem share_lt {S : SaleN} (hS : SaleOK S) {a b : Nat} (ha : a < S.ca) (hb : b < S.ca) : shareN S a < shareN S b ↔ before S a b := by
  obtain ⟨-, a1, a2, -⟩ := hS.2.2.1 a ha
  obtain ⟨-, b1, b2, -⟩ := hS.2.2.1 b hb
  obtain ⟨p1, p2⟩ := pop64 _ a2 a1
  obtain ⟨q1, q2⟩ := pop64 _ b2 b1
  have e1 := share_div (p := S.pr a) p1 p2
  have e2 := share_div (p := S.pr b) q1 q2
  unfold shareN before
  generalize 60 * S.pr a / pop (S.st a) = x at e1 ⊢
  generalize 60 * S.pr b / pop (S.st b) = y at e2 ⊢
  generalize pop (S.st a) = n at p1 p2 e1 ⊢
  generalize pop (S.st b) = m at q1 q2 e2 ⊢
  generalize S.pr a = u at e1 ⊢
  generalize S.pr b = v at e2 ⊢
  have hn : n = 1 ∨ n = 2 ∨ n = 3 ∨ n = 4 ∨ n = 5 ∨ n = 6 := by omega
  have hm : m = 1 ∨ m = 2 ∨ m = 3 ∨ m = 4 ∨ m = 5 ∨ m = 6 := by omega
  rcases hn with rfl | rfl | rfl | rfl | rfl | rfl <;> rcases hm with rfl | rfl | rfl | rfl | rfl | rfl <;> omega
/-- a row holds a list -/
def RowIs (f : Nat → Nat) (L : List Nat) : Prop := ∀ p m, L[p]? = some m → f p = m
def insR (S : SaleN) (b : Nat) : List Nat → List Nat
  | [] => [b]
  | a :: t => if before S a b then a :: insR S b t else b :: a :: t
def insO (S : SaleN) (b : Nat) (L : List Nat) : List Nat := (insR S b L.reverse).reverse
theorem insR_app {S : SaleN} {b : Nat} {Z : List Nat} (hZ : Z = [] ∨ ∃ a t, Z = a :: t ∧ ¬ before S a b) : ∀ X : List Nat, (∀ a ∈ X, before S a b) → insR S b (X ++ Z) = X ++ b :: Z
  | [], _ => by
    rcases hZ with rfl | ⟨a, t, rfl, h⟩
    · rfl
    · show (if before S a b then _ else _) = _
      rw [if_neg h]
      rfl
  | x :: X, h => by
    show (if before S x b then x :: insR S b (X ++ Z) else _) = _
    rw [if_pos (h x List.mem_cons_self), insR_app hZ X (fun a ha => h a (List.mem_cons_of_mem _ ha))]
    rfl
def InsI (f : Nat → Nat) (L : List Nat) (S : SaleN) (b q : Nat) : Prop := (∀ p m, p < q → L[p]? = some m → f p = m) ∧ ∀ p m, q ≤ p → L[p]? = some m → f (p + 1) = m ∧ before S m b
theorem ins_start {f : Nat → Nat} {L : List Nat} {S : SaleN} {b : Nat} (h : RowIs f L) : InsI f L S b L.length := ⟨fun p m _ hm => h p m hm, fun p m hp hm => absurd (List.getElem?_eq_some_iff.mp hm).1 (by omega)⟩
theorem ins_step {f : Nat → Nat} {L : List Nat} {S : SaleN} {b q m : Nat} (h : InsI f L S b (q + 1)) (hm : L[q]? = some m) (hb : before S m b) : InsI (up f (q + 1) m) L S b q := by
  refine ⟨fun p x hp hx => ?_, fun p x hp hx => ?_⟩
  · rw [up_ne (by omega)]
    exact h.1 p x (by omega) hx
  · by_cases hpq : p = q
    · subst hpq
      rw [hm] at hx
      cases hx
      rw [up_at]
      exact ⟨rfl, hb⟩
    · rw [up_ne (by omega)]
      exact h.2 p x (by omega) hx
theorem ins_done {f : Nat → Nat} {L : List Nat} {S : SaleN} {b q : Nat} (h : InsI f L S b q) (hq : q ≤ L.length) (hz : q = 0 ∨ ∃ m, L[q - 1]? = some m ∧ ¬ before S m b) : RowIs (up f q b) (insO S b L) := by
  have e : insO S b L = L.take q ++ b :: L.drop q := by
    unfold insO
    have e1 : L.reverse = (L.drop q).reverse ++ (L.take q).reverse := by rw [← List.reverse_append, List.take_append_drop]
    rw [e1, insR_app ?_ _ ?_]
    · simp
    · rcases hz with rfl | ⟨m, hm, hb⟩
      · left; simp
      · right
        have hq0 : q ≠ 0 := by
          intro h0
          subst h0
          have := h.2 0 m (Nat.le_refl _) hm
          exact hb this.2
        obtain ⟨q', rfl⟩ : ∃ q', q = q' + 1 := ⟨q - 1, by omega⟩
        have hm' : L[q']? = some m := hm
        refine ⟨m, (L.take q').reverse, ?_, hb⟩
        rw [List.take_add_one, hm']
        simp
    · intro a ha
      obtain ⟨i, hi⟩ := List.getElem?_of_mem (List.mem_reverse.mp ha)
      rw [List.getElem?_drop] at hi
      exact (h.2 (q + i) a (by omega) hi).2
  rw [e]
  have hlen : (L.take q).length = q := by rw [List.length_take]; omega
  intro p m hm
  by_cases h1 : p < q
  · rw [List.getElem?_append_left (by omega), List.getElem?_take_of_lt h1] at hm
    rw [up_ne (by omega)]
    exact h.1 p m h1 hm
  · rw [List.getElem?_append_right (by omega), hlen] at hm
    by_cases h2 : p = q
    · subst h2
      rw [Nat.sub_self, List.getElem?_cons_zero] at hm
      rw [up_at]
      exact Option.some.inj hm
    · obtain ⟨i, hi⟩ : ∃ i, p - q = i + 1 := ⟨p - q - 1, by omega⟩
      rw [hi, List.getElem?_cons_succ, List.getElem?_drop] at hm
      rw [up_ne h2]
      have := (h.2 (q + i) m (by omega) hm).1
      rw [show p = q + i + 1 by omega]
      exact this
theorem insR_len (S : SaleN) (b : Nat) : ∀ L, (insR S b L).length = L.length + 1
  | [] => rfl
  | a :: t => by
    show (if before S a b then a :: insR S b t else b :: a :: t).length = _
    split
    · rw [List.length_cons, insR_len S b t]; rfl
    · rfl
theorem insO_len (S : SaleN) (b : Nat) (L : List Nat) : (insO S b L).length = L.length + 1 := by
  unfold insO
  rw [List.length_reverse, insR_len, List.length_reverse]
theorem insR_mem {S : SaleN} {b x : Nat} : ∀ L, x ∈ insR S b L ↔ x = b ∨ x ∈ L
  | [] => by simp [insR]
  | a :: t => by
    show x ∈ (if before S a b then a :: insR S b t else b :: a :: t) ↔ _
    split
    · rw [List.mem_cons, insR_mem t, List.mem_cons]
      constructor
      · rintro (h | h | h)
        · exact Or.inr (Or.inl h)
        · exact Or.inl h
        · exact Or.inr (Or.inr h)
      · rintro (h | h | h)
        · exact Or.inr (Or.inl h)
        · exact Or.inl h
        · exact Or.inr (Or.inr h)
    · rw [List.mem_cons, List.mem_cons]
theorem insO_mem {S : SaleN} {b x : Nat} {L : List Nat} : x ∈ insO S b L ↔ x = b ∨ x ∈ L := by
  unfold insO
  rw [List.mem_reverse, insR_mem, List.mem_reverse]
/-- THE ORDER of the bids below k that are on -/
def ordN (S : SaleN) : Nat → List Nat
  | 0 => []
  | k + 1 => if S.ac.testBit k = true then insO S k (ordN S k) else ordN S k
theorem ordN_s {S : SaleN} {k : Nat} : ordN S (k + 1) = if S.ac.testBit k = true then insO S k (ordN S k) else ordN S k := rfl
theorem ordN_len (S : SaleN) : ∀ k, (ordN S k).length ≤ k
  | 0 => Nat.le_refl _
  | k + 1 => by
    rw [ordN_s]
    have := ordN_len S k
    split
    · rw [insO_len]; omega
    · omega
theorem ordN_mem (S : SaleN) : ∀ k x, x ∈ ordN S k → x < k
  | 0, x, h => by cases h
  | k + 1, x, h => by
    rw [ordN_s] at h
    split at h
    · rcases insO_mem.mp h with h | h
      · omega
      · have := ordN_mem S k x h
        omega
    · have := ordN_mem S k x h
      omega
/-- the place in a list, from i on; -9 -/
def posZ (b : Nat) : List Nat → Nat → Int
  | [], _ => -9
  | a :: t, i => if a = b then (i : Int) else posZ b t (i + 1)
theorem pos_step {b k m : Nat} {L : List Nat} (h : posZ b L 0 = posZ b (L.drop k) k) (hm : L[k]? = some m) : posZ b L 0 = if m = b then (k : Int) else posZ b (L.drop (k + 1)) (k + 1) := by
  rw [h]
  have h1 : L.drop k = m :: L.drop (k + 1) := by
    rw [List.drop_eq_getElem_cons (List.getElem?_eq_some_iff.mp hm).1]
    rw [(List.getElem?_eq_some_iff.mp hm).2]
  rw [h1]
  rfl
/-- the most for an item: of its reserve and of the shares of those in a list that have it -/
def mfF (S : SaleN) (i acc b : Nat) : Nat := if (S.st b).testBit i = true then max acc (shareN S b) else acc
def mostF (S : SaleN) (i : Nat) (L : List Nat) : Nat := L.foldl (mfF S i) (60 * S.rs i)
theorem take_get {L : List Nat} {k m : Nat} (hm : L[k]? = some m) : L.take (k + 1) = L.take k ++ [m] := by
  rw [List.take_add_one, hm]
  rfl
theorem mf_take {S : SaleN} {i k m : Nat} {L : List Nat} (hm : L[k]? = some m) : mostF S i (L.take (k + 1)) = mfF S i (mostF S i (L.take k)) m := by
  unfold mostF
  rw [take_get hm, List.foldl_append]
  rfl
theorem mf_le {S : SaleN} (hS : SaleOK S) {i : Nat} (hi : i < 6) : ∀ (L : List Nat) (acc : Nat), acc ≤ 5940 → (∀ x ∈ L, x < S.ca) → L.foldl (mfF S i) acc ≤ 5940
  | [], acc, h, _ => h
  | b :: t, acc, h, hx => by
    show t.foldl (mfF S i) (mfF S i acc b) ≤ 5940
    refine mf_le hS hi t _ ?_ (fun x hx2 => hx x (List.mem_cons_of_mem _ hx2))
    have := share_le hS (hx b List.mem_cons_self)
    unfold mfF
    split <;> omega
theorem mostF_le {S : SaleN} (hS : SaleOK S) {i : Nat} (hi : i < 6) {L : List Nat} (hL : ∀ x ∈ L, x < S.ca) : mostF S i L ≤ 5940 := mf_le hS hi L _ (by have := hS.2.2.2.2 i hi; omega) hL
/-- sixty times the bound of a branch -/
def bdTo (S : SaleN) (L : List Nat) (taken : Nat) : Nat → Nat
  | 0 => 60 * prTo S.pr taken S.ca
  | i + 1 => bdTo S L taken i + if (itTo S.st taken S.ca).testBit i = true then 0 else mostF S i L
theorem bdTo_s {S : SaleN} {L : List Nat} {taken i : Nat} : bdTo S L taken (i + 1) = bdTo S L taken i + if (itTo S.st taken S.ca).testBit i = true then 0 else mostF S i L := rfl
theorem bdTo_le {S : SaleN} (hS : SaleOK S) {L : List Nat} (hL : ∀ x ∈ L, x < S.ca) {taken : Nat} : ∀ i, i ≤ 6 → bdTo S L taken i ≤ 60 * 990 + 5940 * i
  | 0, _ => by
    have := pr_le hS taken
    show 60 * prTo S.pr taken S.ca ≤ _
    omega
  | i + 1, hi => by
    rw [bdTo_s]
    have h1 := bdTo_le hS hL (taken := taken) i (by omega)
    have h2 := mostF_le hS (show i < 6 by omega) hL
    split <;> omega
/-- the search: how many branches were looked at, sixty times the most found -/
def lookL (S : SaleN) : List Nat → Nat → Nat × Nat → Nat × Nat
  | [], taken, f => if bdTo S [] taken 6 < f.2 then (f.1 + 1, f.2) else (f.1 + 1, if allS S taken then max f.2 (60 * worthN S taken) else f.2)
  | b :: t, taken, f => if bdTo S (b :: t) taken 6 < f.2 then (f.1 + 1, f.2) else lookL S t taken (if S.st b &&& itTo S.st taken S.ca = 0 then lookL S t (taken ||| 1 <<< b) (f.1 + 1, f.2) else (f.1 + 1, f.2))
def setF (Q : SeaN) (f : Nat × Nat) : SeaN := (Q.sh, Q.od, Q.ln, f.1, f.2)
/-- what the search has of the sale -/
def SeaOK (Q : SeaN) (S : SaleN) (L : List Nat) : Prop := Q.ln = L.length ∧ L.length ≤ 10 ∧ RowIs Q.od L ∧ (∀ x ∈ L, x < S.ca ∧ Q.sh x = shareN S x) ∧ Q.fd < 2147483648
theorem drop_get {L : List Nat} {k m : Nat} (hm : L[k]? = some m) : L.drop k = m :: L.drop (k + 1) := by
  rw [List.drop_eq_getElem_cons (List.getElem?_eq_some_iff.mp hm).1]
  rw [(List.getElem?_eq_some_iff.mp hm).2]
theorem sea_at {Q : SeaN} {S : SaleN} {L : List Nat} (h : SeaOK Q S L) {p : Nat} (hp : p < L.length) : ∃ m, L[p]? = some m ∧ Q.od p = m ∧ m < S.ca ∧ Q.sh m = shareN S m ∧ m ∈ L := by
  have h1 := List.getElem?_eq_getElem hp
  have hm := List.mem_of_getElem? h1
  exact ⟨_, h1, h.2.2.1 p _ h1, (h.2.2.2.1 _ hm).1, (h.2.2.2.1 _ hm).2, hm⟩
theorem max_lt {a b n : Nat} (ha : a < n) (hb : b < n) : max a b < n := by omega
theorem lookL_lt {S : SaleN} (hS : SaleOK S) : ∀ (L : List Nat) (taken : Nat) (f : Nat × Nat), f.2 < 2147483648 → (lookL S L taken f).2 < 2147483648
  | [], taken, f, h => by
    have h1 := pr_le hS taken
    have h2 := rbTo_le (rs := S.rs) (items := itTo S.st taken S.ca) 6 (Nat.le_refl _) hS.2.2.2.2
    have h3 : worthN S taken ≤ 1044 := by unfold worthN; omega
    unfold lookL
    split
    · exact h
    · show (if allS S taken then max f.2 (60 * worthN S taken) else f.2) < 2147483648
      split <;> omega
  | b :: t, taken, f, h => by
    unfold lookL
    split
    · exact h
    · refine lookL_lt hS t taken _ ?_
      split
      · exact lookL_lt hS t _ _ h
      · exact h
theorem look_low {S : SaleN} {L : List Nat} {taken : Nat} {f : Nat × Nat} (h : bdTo S L taken 6 < f.2) : lookL S L taken f = (f.1 + 1, f.2) := by
  cases L with
  | nil => unfold lookL; rw [if_pos h]
  | cons b t => unfold lookL; rw [if_pos h]
theorem look_nil {S : SaleN} {L : List Nat} {taken : Nat} {f : Nat × Nat} (hL : L = []) (h : ¬ bdTo S L taken 6 < f.2) : lookL S L taken f = (f.1 + 1, if allS S taken then max f.2 (60 * worthN S taken) else f.2) := by
  subst hL
  unfold lookL
  rw [if_neg h]
theorem look_cons {S : SaleN} {L t : List Nat} {b taken : Nat} {f : Nat × Nat} (hL : L = b :: t) (h : ¬ bdTo S L taken 6 < f.2) : lookL S L taken f = lookL S t taken (if S.st b &&& itTo S.st taken S.ca = 0 then lookL S t (taken ||| 1 <<< b) (f.1 + 1, f.2) else (f.1 + 1, f.2)) := by
  subst hL
  conv => lhs; unfold lookL
  rw [if_neg h]
theorem SeaOK.setF {Q : SeaN} {S : SaleN} {L : List Nat} (h : SeaOK Q S L) {f : Nat × Nat} (hf : f.2 < 2147483648) : SeaOK (setF Q f) S L := ⟨h.1, h.2.1, h.2.2.1, h.2.2.2.1, hf⟩
theorem pow_ca {S : SaleN} (hS : SaleOK S) : 2 ^ S.ca ≤ 1024 := by
  have h2 : (2 : Nat) ^ S.ca ≤ 2 ^ 10 := Nat.pow_le_pow_right (by decide) hS.1
  have h3 : (2 : Nat) ^ 10 = 1024 := by decide
  omega
theorem line_ok {Q : SeaN} {S : SaleN} {k : Nat} (h1 : Q.ln = (ordN S k).length) (h2 : RowIs Q.od (ordN S k)) (h3 : ∀ j, j < k → Q.sh j = shareN S j) (h4 : Q.fd < 2147483648) (hk : k ≤ S.ca) (hS : SaleOK S) {v : Nat} : SeaOK (up Q.sh k v, Q.od, Q.ln, Q.lk, Q.fd) S (ordN S k) := by
  refine ⟨h1, Nat.le_trans (ordN_len S k) (by have := hS.1; omega), h2, fun x hx => ?_, h4⟩
  have := ordN_mem S k x hx
  refine ⟨by omega, ?_⟩
  show up Q.sh k v x = _
  rw [up_ne (by omega)]
  exact h3 x this
theorem line_sh {sh : Nat → Nat} {S : SaleN} {k v : Nat} (h3 : ∀ j, j < k → sh j = shareN S j) (hv : v = shareN S k) : ∀ j, j < k + 1 → up sh k v j = shareN S j := by
  intro j hj
  by_cases h : j = k
  · subst h; rw [up_at]; exact hv
  · rw [up_ne h]; exact h3 j (by omega)

theorem bX5_bidAt_0_1 {l : Launch} {E : XE} : Snd l E mX5_bidAt 0 1 (xs [x_iload 1]) := Snd.cons (snd_iload_n (i := 1) dX5_bidAt_0 rfl) Snd.nil
theorem bX5_bidAt_4_9 {l : Launch} {E : XE} : Snd l E mX5_bidAt 4 9 (xs [x_iload 1, x_aload 0, x_get 6 2]) := Snd.cons (snd_iload_n (i := 1) dX5_bidAt_4 rfl) (Snd.cons (snd_aload_n (i := 0) dX5_bidAt_5 rfl) (Snd.cons (snd_get (ci := 6) (k := 2) dX5_bidAt_6 rfl inX5 (by decide) tw_140) Snd.nil))
theorem bX5_bidAt_12_15 {l : Launch} {E : XE} : Snd l E mX5_bidAt 12 15 (xs [x_iload 1, x_push (.int (nI 10))]) := Snd.cons (snd_iload_n (i := 1) dX5_bidAt_12 rfl) (Snd.cons (snd_bipush (v := nI 10) dX5_bidAt_13 (by decide)) Snd.nil)
theorem bX5_bidAt_18_23 {l : Launch} {E : XE} : Snd l E mX5_bidAt 18 23 (xs [x_aload 0, x_get 6 1, x_iload 1]) := Snd.cons (snd_aload_n (i := 0) dX5_bidAt_18 rfl) (Snd.cons (snd_get (ci := 6) (k := 1) dX5_bidAt_19 rfl inX5 (by decide) tw_139) (Snd.cons (snd_iload_n (i := 1) dX5_bidAt_22 rfl) Snd.nil))
theorem bX5_bidAt_24_29 {l : Launch} {E : XE} : Snd l E mX5_bidAt 24 29 (xs [x_id]) := Snd.cons (snd_goto (tgt := 29) dX5_bidAt_24 (by decide)) Snd.nil
set_option maxHeartbeats 4000000 in
set_option maxRecDepth 100000 in
theorem m_X5_bidAt {l : Launch} {E : XE} (Q : SeaN) (p : Nat) (hp : p < Q.ln) (hl : Q.ln ≤ 10) : MetE l E mX5_bidAt (0) 0 0 [.ref 0, .int (nI (p))] (seaW 0 Q) (fun r w' => r = some (.int (nI (Q.od p))) ∧ w' = seaW 0 Q) := by
  refine MetE.of (by decide +kernel) (Nat.le_of_ble_eq_true rfl) ?_
  refine ev_eq (lv' := [(0, .ref 0), (1, .int (nI (p)))]) (st' := []) (w' := seaW 0 Q) rfl rfl rfl ?_
  refine ev_b bX5_bidAt_0_1 (lv' := [(0, .ref 0), (1, .int (nI (p)))]) (st' := [.int (nI (p))]) (w2 := seaW 0 Q) rfl ?_
  refine ev_if_lt_n (tgt := 27) (by omega) dX5_bidAt_1 (by decide) (fun h1 => (by exfalso; omega)) (fun h1 => ?_)
  refine ev_b bX5_bidAt_4_9 (lv' := [(0, .ref 0), (1, .int (nI (p)))]) (st' := [.int (nI (Q.ln)), .int (nI (p))]) (w2 := seaW 0 Q) rfl ?_
  refine ev_icmp_ge_n (tgt := 27) (by omega) (by omega) dX5_bidAt_9 (by decide) (fun h9 => (by exfalso; omega)) (fun h9 => ?_)
  refine ev_b bX5_bidAt_12_15 (lv' := [(0, .ref 0), (1, .int (nI (p)))]) (st' := [.int (nI (10)), .int (nI (p))]) (w2 := seaW 0 Q) rfl ?_
  refine ev_icmp_ge_n (tgt := 27) (by omega) (by decide) dX5_bidAt_15 (by decide) (fun h15 => (by exfalso; omega)) (fun h15 => ?_)
  refine ev_b bX5_bidAt_18_23 (lv' := [(0, .ref 0), (1, .int (nI (p)))]) (st' := [.int (nI (p)), .ref 2]) (w2 := seaW 0 Q) rfl ?_
  refine ev_iald_n (f := Q.od) dX5_bidAt_23 rfl (by omega) (by decide) ?_
  refine ev_b bX5_bidAt_24_29 (lv' := [(0, .ref 0), (1, .int (nI (p)))]) (st' := [.int (nI (Q.od p))]) (w2 := seaW 0 Q) rfl ?_
  exact ev_iret dX5_bidAt_29 rfl (Nat.le_of_ble_eq_true rfl) (Nat.le_refl _) (Nat.le_refl _) ⟨rfl, rfl⟩
theorem bX5_shareOf_0_1 {l : Launch} {E : XE} : Snd l E mX5_shareOf 0 1 (xs [x_iload 1]) := Snd.cons (snd_iload_n (i := 1) dX5_shareOf_0 rfl) Snd.nil
theorem bX5_shareOf_4_7 {l : Launch} {E : XE} : Snd l E mX5_shareOf 4 7 (xs [x_iload 1, x_push (.int (nI 10))]) := Snd.cons (snd_iload_n (i := 1) dX5_shareOf_4 rfl) (Snd.cons (snd_bipush (v := nI 10) dX5_shareOf_5 (by decide)) Snd.nil)
theorem bX5_shareOf_10_15 {l : Launch} {E : XE} : Snd l E mX5_shareOf 10 15 (xs [x_aload 0, x_get 6 0, x_iload 1]) := Snd.cons (snd_aload_n (i := 0) dX5_shareOf_10 rfl) (Snd.cons (snd_get (ci := 6) (k := 0) dX5_shareOf_11 rfl inX5 (by decide) tw_138) (Snd.cons (snd_iload_n (i := 1) dX5_shareOf_14 rfl) Snd.nil))
theorem bX5_shareOf_16_20 {l : Launch} {E : XE} : Snd l E mX5_shareOf 16 20 (xs [x_id]) := Snd.cons (snd_goto (tgt := 20) dX5_shareOf_16 (by decide)) Snd.nil
set_option maxHeartbeats 4000000 in
set_option maxRecDepth 100000 in
theorem m_X5_shareOf {l : Launch} {E : XE} (Q : SeaN) (b : Nat) (hb : b < 10) : MetE l E mX5_shareOf (0) 0 0 [.ref 0, .int (nI (b))] (seaW 0 Q) (fun r w' => r = some (.int (nI (Q.sh b))) ∧ w' = seaW 0 Q) := by
  refine MetE.of (by decide +kernel) (Nat.le_of_ble_eq_true rfl) ?_
  refine ev_eq (lv' := [(0, .ref 0), (1, .int (nI (b)))]) (st' := []) (w' := seaW 0 Q) rfl rfl rfl ?_
  refine ev_b bX5_shareOf_0_1 (lv' := [(0, .ref 0), (1, .int (nI (b)))]) (st' := [.int (nI (b))]) (w2 := seaW 0 Q) rfl ?_
  refine ev_if_lt_n (tgt := 19) (by omega) dX5_shareOf_1 (by decide) (fun h1 => (by exfalso; omega)) (fun h1 => ?_)
  refine ev_b bX5_shareOf_4_7 (lv' := [(0, .ref 0), (1, .int (nI (b)))]) (st' := [.int (nI (10)), .int (nI (b))]) (w2 := seaW 0 Q) rfl ?_
  refine ev_icmp_ge_n (tgt := 19) (by omega) (by decide) dX5_shareOf_7 (by decide) (fun h7 => (by exfalso; omega)) (fun h7 => ?_)
  refine ev_b bX5_shareOf_10_15 (lv' := [(0, .ref 0), (1, .int (nI (b)))]) (st' := [.int (nI (b)), .ref 1]) (w2 := seaW 0 Q) rfl ?_
  refine ev_iald_n (f := Q.sh) dX5_shareOf_15 rfl (by omega) (by decide) ?_
  refine ev_b bX5_shareOf_16_20 (lv' := [(0, .ref 0), (1, .int (nI (b)))]) (st' := [.int (nI (Q.sh b))]) (w2 := seaW 0 Q) rfl ?_
  exact ev_iret dX5_shareOf_20 rfl (Nat.le_of_ble_eq_true rfl) (Nat.le_refl _) (Nat.le_refl _) ⟨rfl, rfl⟩
theorem bX5_placeOf_0_2 {l : Launch} {E : XE} : Snd l E mX5_placeOf 0 2 (xs [x_push (.int (nI 0)), x_istore 2]) := Snd.cons (snd_iconst (v := nI 0) dX5_placeOf_0 (by decide)) (Snd.cons (snd_istore_n (i := 2) dX5_placeOf_1 rfl (by decide)) Snd.nil)
theorem bX5_placeOf_2_7 {l : Launch} {E : XE} : Snd l E mX5_placeOf 2 7 (xs [x_iload 2, x_aload 0, x_get 6 2]) := Snd.cons (snd_iload_n (i := 2) dX5_placeOf_2 rfl) (Snd.cons (snd_aload_n (i := 0) dX5_placeOf_3 rfl) (Snd.cons (snd_get (ci := 6) (k := 2) dX5_placeOf_4 rfl inX5 (by decide) tw_140) Snd.nil))
theorem bX5_placeOf_27_29 {l : Launch} {E : XE} : Snd l E mX5_placeOf 27 29 (xs [x_push (.int (-9))]) := Snd.cons (snd_bipush (v := -9) dX5_placeOf_27 (by decide)) Snd.nil
theorem bX5_placeOf_10_12 {l : Launch} {E : XE} : Snd l E mX5_placeOf 10 12 (xs [x_aload 0, x_iload 2]) := Snd.cons (snd_aload_n (i := 0) dX5_placeOf_10 rfl) (Snd.cons (snd_iload_n (i := 2) dX5_placeOf_11 rfl) Snd.nil)
theorem bX5_placeOf_15_16 {l : Launch} {E : XE} : Snd l E mX5_placeOf 15 16 (xs [x_iload 1]) := Snd.cons (snd_iload_n (i := 1) dX5_placeOf_15 rfl) Snd.nil
theorem bX5_placeOf_24_2 {l : Launch} {E : XE} : Snd l E mX5_placeOf 24 2 (xs [x_id]) := Snd.cons (snd_goto (tgt := 2) dX5_placeOf_24 (by decide)) Snd.nil
theorem bX5_placeOf_19_20 {l : Launch} {E : XE} : Snd l E mX5_placeOf 19 20 (xs [x_iload 2]) := Snd.cons (snd_iload_n (i := 2) dX5_placeOf_19 rfl) Snd.nil
set_option maxHeartbeats 4000000 in
set_option maxRecDepth 100000 in
theorem m_X5_placeOf {l : Launch} {E : XE} (Q : SeaN) (L : List Nat) (b : Nat) (hn : Q.ln = L.length) (hl : L.length ≤ 10) (hL : RowIs Q.od L) (hb : b < 2147483648) (hx : ∀ x ∈ L, x < 10) : MetE l E mX5_placeOf (1) 0 0 [.ref 0, .int (nI (b))] (seaW 0 Q) (fun r w' => r = some (.int (zI (posZ b L 0))) ∧ w' = seaW 0 Q) := by
  refine MetE.of (by decide +kernel) (Nat.le_of_ble_eq_true rfl) ?_
  refine ev_eq (lv' := [(0, .ref 0), (1, .int (nI (b)))]) (st' := []) (w' := seaW 0 Q) rfl rfl rfl ?_
  refine ev_b bX5_placeOf_0_2 (lv' := [(2, .int (nI (0))), (0, .ref 0), (1, .int (nI (b)))]) (st' := []) (w2 := seaW 0 Q) rfl ?_
  have L2 : ∀ (j_ k : Nat), k + j_ = L.length → (posZ b L 0 = posZ b (L.drop k) k) → Ev l E mX5_placeOf (1) 0 0 (seaW 0 Q) (fun r w' => r = some (.int (zI (posZ b L 0))) ∧ w' = seaW 0 Q) 0 0 2 [(2, .int (nI (k))), (0, .ref 0), (1, .int (nI (b)))] [] (seaW 0 Q) := by
    intro j_
    induction j_ with
    | zero =>
      intro k hk2  hinv2
      replace hk2 : k = L.length := hk2
      refine ev_b bX5_placeOf_2_7 (lv' := [(2, .int (nI (k))), (0, .ref 0), (1, .int (nI (b)))]) (st' := [.int (nI (Q.ln)), .int (nI (k))]) (w2 := seaW 0 Q) rfl ?_
      refine ev_icmp_ge_n (tgt := 27) (by omega) (by omega) dX5_placeOf_7 (by decide) (fun h7 => ?_) (fun h7 => (by exfalso; omega))
      refine ev_b bX5_placeOf_27_29 (lv' := [(2, .int (nI (k))), (0, .ref 0), (1, .int (nI (b)))]) (st' := [.int (-9)]) (w2 := seaW 0 Q) rfl ?_
      exact ev_iret dX5_placeOf_29 rfl (Nat.le_of_ble_eq_true rfl) (Nat.le_refl _) (Nat.le_refl _) ⟨(by rw [hinv2, hk2, List.drop_length]; exact rfl), rfl⟩
    | succ j_ ih2 =>
      intro k hk2  hinv2
      have hlt2 : k < L.length := by omega
      obtain ⟨m, hm⟩ : ∃ m, L[k]? = some m := ⟨_, List.getElem?_eq_getElem hlt2⟩
      have hom := hL k m hm
      have hx2 := hx m (List.mem_of_getElem? hm)
      have hst := pos_step hinv2 hm
      refine ev_b bX5_placeOf_2_7 (lv' := [(2, .int (nI (k))), (0, .ref 0), (1, .int (nI (b)))]) (st' := [.int (nI (Q.ln)), .int (nI (k))]) (w2 := seaW 0 Q) rfl ?_
      refine ev_icmp_ge_n (tgt := 27) (by omega) (by omega) dX5_placeOf_7 (by decide) (fun h7 => (by exfalso; omega)) (fun h7 => ?_)
      refine ev_b bX5_placeOf_10_12 (lv' := [(2, .int (nI (k))), (0, .ref 0), (1, .int (nI (b)))]) (st' := [.int (nI (k)), .ref 0]) (w2 := seaW 0 Q) rfl ?_
      refine ev_callV (Yc := mX5_bidAt) [0, 1, 2] dX5_placeOf_12 tw_576 kX5_bidAt (m_X5_bidAt Q k (by omega) (by omega)) rfl (st := []) rfl rfl rfl (by decide) rfl (by decide) (Nat.le_of_ble_eq_true rfl) (Nat.le_refl _) (Nat.le_refl _) (fun r w' h => by obtain ⟨-, rfl⟩ := h; exact Nat.le_of_ble_eq_true rfl) ?_
      rintro _ _ ⟨rfl, rfl⟩
      refine ev_eq (lv' := [(2, .int (nI (k))), (0, .ref 0), (1, .int (nI (b)))]) (st' := [.int (nI (Q.od k))]) (w' := seaW 0 Q) rfl rfl rfl ?_
      refine ev_b bX5_placeOf_15_16 (lv' := [(2, .int (nI (k))), (0, .ref 0), (1, .int (nI (b)))]) (st' := [.int (nI (b)), .int (nI (Q.od k))]) (w2 := seaW 0 Q) rfl ?_
      refine ev_icmp_ne_n (tgt := 21) (by omega) (by omega) dX5_placeOf_16 (by decide) (fun h16 => ?_) (fun h16 => ?_)
      · skip
        have hnext : posZ b L 0 = posZ b (L.drop (k + 1)) (k + 1) := by rw [hst, if_neg (by rw [← hom]; exact h16)]
        refine ev_iinc_n (x := k) (v := 1) dX5_placeOf_21 rfl (by decide) ?_
        refine ev_eq (lv' := [(2, .int (nI (k + 1))), (0, .ref 0), (1, .int (nI (b)))]) rfl rfl rfl ?_
        refine ev_b bX5_placeOf_24_2 (lv' := [(2, .int (nI (k + 1))), (0, .ref 0), (1, .int (nI (b)))]) (st' := []) (w2 := seaW 0 Q) rfl ?_
        rw [show nI (k + 1) = nI ((k + 1)) from congrArg nI (by omega)]
        exact ih2 (k + 1) (by omega) hnext
      · skip
        refine ev_b bX5_placeOf_19_20 (lv' := [(2, .int (nI (k))), (0, .ref 0), (1, .int (nI (b)))]) (st' := [.int (nI (k))]) (w2 := seaW 0 Q) rfl ?_
        exact ev_iret dX5_placeOf_20 rfl (Nat.le_of_ble_eq_true rfl) (Nat.le_refl _) (Nat.le_refl _) ⟨(congrArg (fun t => some (Value.int t)) (show nI (k) = zI (posZ b L 0) from by rw [← zI_nat]; exact congrArg zI (by rw [hst, if_pos (by rw [← hom]; exact h16)]))), rfl⟩
  exact L2 L.length 0 (by omega) rfl
theorem bX5_insert_0_6 {l : Launch} {E : XE} : Snd l E mX5_insert 0 6 (xs [x_aload 0, x_get 6 2, x_push (.int (nI 10))]) := Snd.cons (snd_aload_n (i := 0) dX5_insert_0 rfl) (Snd.cons (snd_get (ci := 6) (k := 2) dX5_insert_1 rfl inX5 (by decide) tw_140) (Snd.cons (snd_bipush (v := nI 10) dX5_insert_4 (by decide)) Snd.nil))
theorem bX5_insert_10_15 {l : Launch} {E : XE} : Snd l E mX5_insert 10 15 (xs [x_aload 0, x_get 6 2, x_istore 2]) := Snd.cons (snd_aload_n (i := 0) dX5_insert_10 rfl) (Snd.cons (snd_get (ci := 6) (k := 2) dX5_insert_11 rfl inX5 (by decide) tw_140) (Snd.cons (snd_istore_n (i := 2) dX5_insert_14 rfl (by decide)) Snd.nil))
theorem bX5_insert_15_16 {l : Launch} {E : XE} : Snd l E mX5_insert 15 16 (xs [x_iload 2]) := Snd.cons (snd_iload_n (i := 2) dX5_insert_15 rfl) Snd.nil
theorem bX5_insert_59_65 {l : Launch} {E : XE} : Snd l E mX5_insert 59 65 (xs [x_aload 0, x_get 6 1, x_iload 2, x_iload 1]) := Snd.cons (snd_aload_n (i := 0) dX5_insert_59 rfl) (Snd.cons (snd_get (ci := 6) (k := 1) dX5_insert_60 rfl inX5 (by decide) tw_139) (Snd.cons (snd_iload_n (i := 2) dX5_insert_63 rfl) (Snd.cons (snd_iload_n (i := 1) dX5_insert_64 rfl) Snd.nil)))
theorem bX5_insert_66_72 {l : Launch} {E : XE} : Snd l E mX5_insert 66 72 (xs [x_aload 0, x_dup, x_get 6 2, x_push (.int (nI 1))]) := Snd.cons (snd_aload_n (i := 0) dX5_insert_66 rfl) (Snd.cons (snd_dup dX5_insert_67) (Snd.cons (snd_get (ci := 6) (k := 2) dX5_insert_68 rfl inX5 (by decide) tw_140) (Snd.cons (snd_iconst (v := nI 1) dX5_insert_71 (by decide)) Snd.nil)))
theorem bX5_insert_73_76 {l : Launch} {E : XE} : Snd l E mX5_insert 73 76 (xs [x_puti 6 2]) := Snd.cons (snd_puti (ci := 6) (k := 2) dX5_insert_73 rfl inX5 tyX5_ok nmX5 (by decide) tw_140 rfl rfl) Snd.nil
theorem bX5_insert_19_26 {l : Launch} {E : XE} : Snd l E mX5_insert 19 26 (xs [x_aload 0, x_aload 0, x_get 6 1, x_iload 2, x_push (.int (nI 1))]) := Snd.cons (snd_aload_n (i := 0) dX5_insert_19 rfl) (Snd.cons (snd_aload_n (i := 0) dX5_insert_20 rfl) (Snd.cons (snd_get (ci := 6) (k := 1) dX5_insert_21 rfl inX5 (by decide) tw_139) (Snd.cons (snd_iload_n (i := 2) dX5_insert_24 rfl) (Snd.cons (snd_iconst (v := nI 1) dX5_insert_25 (by decide)) Snd.nil))))
theorem bX5_insert_31_33 {l : Launch} {E : XE} : Snd l E mX5_insert 31 33 (xs [x_aload 0, x_iload 1]) := Snd.cons (snd_aload_n (i := 0) dX5_insert_31 rfl) (Snd.cons (snd_iload_n (i := 1) dX5_insert_32 rfl) Snd.nil)
theorem bX5_insert_39_50 {l : Launch} {E : XE} : Snd l E mX5_insert 39 50 (xs [x_aload 0, x_get 6 1, x_iload 2, x_aload 0, x_get 6 1, x_iload 2, x_push (.int (nI 1))]) := Snd.cons (snd_aload_n (i := 0) dX5_insert_39 rfl) (Snd.cons (snd_get (ci := 6) (k := 1) dX5_insert_40 rfl inX5 (by decide) tw_139) (Snd.cons (snd_iload_n (i := 2) dX5_insert_43 rfl) (Snd.cons (snd_aload_n (i := 0) dX5_insert_44 rfl) (Snd.cons (snd_get (ci := 6) (k := 1) dX5_insert_45 rfl inX5 (by decide) tw_139) (Snd.cons (snd_iload_n (i := 2) dX5_insert_48 rfl) (Snd.cons (snd_iconst (v := nI 1) dX5_insert_49 (by decide)) Snd.nil))))))
theorem bX5_insert_56_15 {l : Launch} {E : XE} : Snd l E mX5_insert 56 15 (xs [x_id]) := Snd.cons (snd_goto (tgt := 15) dX5_insert_56 (by decide)) Snd.nil
set_option maxHeartbeats 4000000 in
set_option maxRecDepth 100000 in
theorem m_X5_insert {l : Launch} {E : XE} (Q : SeaN) (S : SaleN) (L : List Nat) (b : Nat) (hS : SaleOK S) (hQ : SeaOK Q S L) (hl : L.length < 10) (hb : b < S.ca) (hsb : Q.sh b = shareN S b) : MetE l E mX5_insert (1) 0 0 [.ref 0, .int (nI (b))] (seaW 0 Q) (fun r w' => r = none ∧ ∃ Q' : SeaN, w' = seaW 0 Q' ∧ Q'.ln = (insO S b L).length ∧ RowIs Q'.od (insO S b L) ∧ Q'.sh = Q.sh ∧ Q'.lk = Q.lk ∧ Q'.fd = Q.fd) := by
  refine MetE.of (by decide +kernel) (Nat.le_of_ble_eq_true rfl) ?_
  have hca := hS.1
  have hq1 := hQ.1
  have hsl := share_le hS hb
  refine ev_eq (lv' := [(0, .ref 0), (1, .int (nI (b)))]) (st' := []) (w' := seaW 0 Q) rfl rfl rfl ?_
  refine ev_b bX5_insert_0_6 (lv' := [(0, .ref 0), (1, .int (nI (b)))]) (st' := [.int (nI (10)), .int (nI (Q.ln))]) (w2 := seaW 0 Q) rfl ?_
  refine ev_icmp_lt_n (tgt := 10) (by omega) (by decide) dX5_insert_6 (by decide) (fun h6 => ?_) (fun h6 => (by exfalso; omega))
  refine ev_b bX5_insert_10_15 (lv' := [(2, .int (nI (Q.ln))), (0, .ref 0), (1, .int (nI (b)))]) (st' := []) (w2 := seaW 0 Q) rfl ?_
  have L15 : ∀ (j_ k : Nat), k + j_ = L.length → ∀ (Q2 : SeaN), (InsI Q2.od L S b (L.length - k) ∧ Q2.ln = Q.ln ∧ Q2.sh = Q.sh ∧ Q2.lk = Q.lk ∧ Q2.fd = Q.fd) → Ev l E mX5_insert (1) 0 0 (seaW 0 Q) (fun r w' => r = none ∧ ∃ Q' : SeaN, w' = seaW 0 Q' ∧ Q'.ln = (insO S b L).length ∧ RowIs Q'.od (insO S b L) ∧ Q'.sh = Q.sh ∧ Q'.lk = Q.lk ∧ Q'.fd = Q.fd) 0 0 15 [(2, .int (nI (L.length - k))), (0, .ref 0), (1, .int (nI (b)))] [] (seaW 0 Q2) := by
    intro j_
    induction j_ with
    | zero =>
      intro k hk15 Q2 hinv15
      replace hk15 : k = L.length := hk15
      have hz : L.length - k = 0 ∨ ∃ m, L[L.length - k - 1]? = some m ∧ ¬ before S m b := Or.inl (by omega)
      refine ev_b bX5_insert_15_16 (lv' := [(2, .int (nI (L.length - k))), (0, .ref 0), (1, .int (nI (b)))]) (st' := [.int (nI (L.length - k))]) (w2 := seaW 0 Q2) rfl ?_
      refine ev_if_le_n (tgt := 59) (by omega) dX5_insert_16 (by decide) (fun h16 => ?_) (fun h16 => (by exfalso; omega))
      refine ev_b bX5_insert_59_65 (lv' := [(2, .int (nI (L.length - k))), (0, .ref 0), (1, .int (nI (b)))]) (st' := [.int (nI (b)), .int (nI (L.length - k)), .ref 2]) (w2 := seaW 0 Q2) rfl ?_
      refine ev_iast_n (f := Q2.od) dX5_insert_65 rfl (by omega) (by decide) ?_
      refine ev_eq (w' := seaW 0 ((Q2.sh, up Q2.od (L.length - k) b, Q2.ln, Q2.lk, Q2.fd) : SeaN)) rfl rfl rfl ?_
      refine ev_b bX5_insert_66_72 (lv' := [(2, .int (nI (L.length - k))), (0, .ref 0), (1, .int (nI (b)))]) (st' := [.int (nI (1)), .int (nI (Q2.ln)), .ref 0]) (w2 := seaW 0 ((Q2.sh, up Q2.od (L.length - k) b, Q2.ln, Q2.lk, Q2.fd) : SeaN)) rfl ?_
      refine ev_iadd_n dX5_insert_72 ?_
      refine ev_b bX5_insert_73_76 (lv' := [(2, .int (nI (L.length - k))), (0, .ref 0), (1, .int (nI (b)))]) (st' := []) (w2 := seaW 0 ((Q2.sh, up Q2.od (L.length - k) b, Q2.ln + 1, Q2.lk, Q2.fd) : SeaN)) rfl ?_
      exact ev_vret dX5_insert_76 rfl (Nat.le_of_ble_eq_true rfl) (Nat.le_refl _) (Nat.le_refl _) ⟨rfl, _, rfl, by rw [insO_len, ← hq1, ← hinv15.2.1], ins_done hinv15.1 (by omega) hz, hinv15.2.2.1, hinv15.2.2.2.1, hinv15.2.2.2.2⟩
    | succ j_ ih15 =>
      intro k hk15 Q2 hinv15
      have hlt15 : k < L.length := by omega
      obtain ⟨m, em, eo, emc, esh, -⟩ := sea_at hQ (p := L.length - k - 1) (by omega)
      have eo2 := hinv15.1.1 _ m (by omega) em
      have esm := share_le hS emc
      have es2 : Q2.sh m = shareN S m := by rw [hinv15.2.2.1]; exact esh
      have eb2 : Q2.sh b = shareN S b := by rw [hinv15.2.2.1]; exact hsb
      rw [← eo2] at es2 emc esm
      refine ev_b bX5_insert_15_16 (lv' := [(2, .int (nI (L.length - k))), (0, .ref 0), (1, .int (nI (b)))]) (st' := [.int (nI (L.length - k))]) (w2 := seaW 0 Q2) rfl ?_
      refine ev_if_le_n (tgt := 59) (by omega) dX5_insert_16 (by decide) (fun h16 => (by exfalso; omega)) (fun h16 => ?_)
      refine ev_b bX5_insert_19_26 (lv' := [(2, .int (nI (L.length - k))), (0, .ref 0), (1, .int (nI (b)))]) (st' := [.int (nI (1)), .int (nI (L.length - k)), .ref 2, .ref 0]) (w2 := seaW 0 Q2) rfl ?_
      refine ev_isub_n (by omega) dX5_insert_26 ?_
      refine ev_iald_n (f := Q2.od) dX5_insert_27 rfl (by omega) (by decide) ?_
      refine ev_callV (Yc := mX5_shareOf) [0, 1, 2] dX5_insert_28 tw_568 kX5_shareOf (m_X5_shareOf Q2 (Q2.od (L.length - k - 1)) (by omega)) rfl (st := []) rfl rfl rfl (by decide) rfl (by decide) (Nat.le_of_ble_eq_true rfl) (Nat.le_refl _) (Nat.le_refl _) (fun r w' h => by obtain ⟨-, rfl⟩ := h; exact Nat.le_of_ble_eq_true rfl) ?_
      rintro _ _ ⟨rfl, rfl⟩
      refine ev_eq (lv' := [(2, .int (nI (L.length - k))), (0, .ref 0), (1, .int (nI (b)))]) (st' := [.int (nI (Q2.sh (Q2.od (L.length - k - 1))))]) (w' := seaW 0 Q2) rfl rfl rfl ?_
      refine ev_b bX5_insert_31_33 (lv' := [(2, .int (nI (L.length - k))), (0, .ref 0), (1, .int (nI (b)))]) (st' := [.int (nI (b)), .ref 0, .int (nI (Q2.sh (Q2.od (L.length - k - 1))))]) (w2 := seaW 0 Q2) rfl ?_
      refine ev_callV (Yc := mX5_shareOf) [0, 1, 2] dX5_insert_33 tw_568 kX5_shareOf (m_X5_shareOf Q2 b (by omega)) rfl (st := [.int (nI (Q2.sh (Q2.od (L.length - k - 1))))]) rfl rfl rfl (by decide) rfl (by decide) (Nat.le_of_ble_eq_true rfl) (Nat.le_refl _) (Nat.le_refl _) (fun r w' h => by obtain ⟨-, rfl⟩ := h; exact Nat.le_of_ble_eq_true rfl) ?_
      rintro _ _ ⟨rfl, rfl⟩
      refine ev_eq (lv' := [(2, .int (nI (L.length - k))), (0, .ref 0), (1, .int (nI (b)))]) (st' := [.int (nI (Q2.sh b)), .int (nI (Q2.sh (Q2.od (L.length - k - 1))))]) (w' := seaW 0 Q2) rfl rfl rfl ?_
      refine ev_icmp_ge_n (tgt := 59) (by omega) (by omega) dX5_insert_36 (by decide) (fun h36 => ?_) (fun h36 => ?_)
      · skip
        have hz : L.length - k = 0 ∨ ∃ m, L[L.length - k - 1]? = some m ∧ ¬ before S m b := Or.inr ⟨m, em, fun z => absurd ((share_lt hS (by rw [← eo2]; exact emc) hb).mpr z) (by rw [← eb2, ← eo2, ← es2]; exact Nat.not_lt.mpr h36)⟩
        refine ev_b bX5_insert_59_65 (lv' := [(2, .int (nI (L.length - k))), (0, .ref 0), (1, .int (nI (b)))]) (st' := [.int (nI (b)), .int (nI (L.length - k)), .ref 2]) (w2 := seaW 0 Q2) rfl ?_
        refine ev_iast_n (f := Q2.od) dX5_insert_65 rfl (by omega) (by decide) ?_
        refine ev_eq (w' := seaW 0 ((Q2.sh, up Q2.od (L.length - k) b, Q2.ln, Q2.lk, Q2.fd) : SeaN)) rfl rfl rfl ?_
        refine ev_b bX5_insert_66_72 (lv' := [(2, .int (nI (L.length - k))), (0, .ref 0), (1, .int (nI (b)))]) (st' := [.int (nI (1)), .int (nI (Q2.ln)), .ref 0]) (w2 := seaW 0 ((Q2.sh, up Q2.od (L.length - k) b, Q2.ln, Q2.lk, Q2.fd) : SeaN)) rfl ?_
        refine ev_iadd_n dX5_insert_72 ?_
        refine ev_b bX5_insert_73_76 (lv' := [(2, .int (nI (L.length - k))), (0, .ref 0), (1, .int (nI (b)))]) (st' := []) (w2 := seaW 0 ((Q2.sh, up Q2.od (L.length - k) b, Q2.ln + 1, Q2.lk, Q2.fd) : SeaN)) rfl ?_
        exact ev_vret dX5_insert_76 rfl (Nat.le_of_ble_eq_true rfl) (Nat.le_refl _) (Nat.le_refl _) ⟨rfl, _, rfl, by rw [insO_len, ← hq1, ← hinv15.2.1], ins_done hinv15.1 (by omega) hz, hinv15.2.2.1, hinv15.2.2.2.1, hinv15.2.2.2.2⟩
      · skip
        have hbf : before S m b := (share_lt hS (by rw [← eo2]; exact emc) hb).mp (by rw [← eb2, ← eo2, ← es2]; exact Nat.not_le.mp h36)
        have hnext : InsI (up Q2.od (L.length - k) (Q2.od (L.length - k - 1))) L S b (L.length - (k + 1)) ∧ Q2.ln = Q.ln ∧ Q2.sh = Q.sh ∧ Q2.lk = Q.lk ∧ Q2.fd = Q.fd := ⟨by rw [eo2, show L.length - (k + 1) = L.length - k - 1 by omega, show L.length - k = L.length - k - 1 + 1 by omega]; exact ins_step (by rw [show L.length - k - 1 + 1 = L.length - k by omega]; exact hinv15.1) em hbf, hinv15.2⟩
        refine ev_b bX5_insert_39_50 (lv' := [(2, .int (nI (L.length - k))), (0, .ref 0), (1, .int (nI (b)))]) (st' := [.int (nI (1)), .int (nI (L.length - k)), .ref 2, .int (nI (L.length - k)), .ref 2]) (w2 := seaW 0 Q2) rfl ?_
        refine ev_isub_n (by omega) dX5_insert_50 ?_
        refine ev_iald_n (f := Q2.od) dX5_insert_51 rfl (by omega) (by decide) ?_
        refine ev_iast_n (f := Q2.od) dX5_insert_52 rfl (by omega) (by decide) ?_
        refine ev_eq (w' := seaW 0 ((Q2.sh, up Q2.od (L.length - k) (Q2.od ((L.length - k) - 1)), Q2.ln, Q2.lk, Q2.fd) : SeaN)) rfl rfl rfl ?_
        refine ev_idec_n (x := L.length - k) dX5_insert_53 rfl (by decide) (by omega) ?_
        refine ev_eq (lv' := [(2, .int (nI ((L.length - k) - 1))), (0, .ref 0), (1, .int (nI (b)))]) rfl rfl rfl ?_
        refine ev_b bX5_insert_56_15 (lv' := [(2, .int (nI ((L.length - k) - 1))), (0, .ref 0), (1, .int (nI (b)))]) (st' := []) (w2 := seaW 0 ((Q2.sh, up Q2.od (L.length - k) (Q2.od ((L.length - k) - 1)), Q2.ln, Q2.lk, Q2.fd) : SeaN)) rfl ?_
        rw [show nI ((L.length - k) - 1) = nI (L.length - (k + 1)) from congrArg nI (by omega)]
        exact ih15 (k + 1) (by omega) ((Q2.sh, up Q2.od (L.length - k) (Q2.od ((L.length - k) - 1)), Q2.ln, Q2.lk, Q2.fd) : SeaN) hnext
  rw [show nI (Q.ln) = nI (L.length - 0) from congrArg nI (by omega)]
  exact L15 L.length 0 (by omega) Q ⟨ins_start hQ.2.2.1, rfl, rfl, rfl, rfl⟩
