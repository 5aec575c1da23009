/-! ===== the reference's search: branches that wait stand in two rows ===== -/
theorem or_and0 {a b x : Nat} : (a ||| b) &&& x = 0 ↔ a &&& x = 0 ∧ b &&& x = 0 := by
  have key : ∀ u : Nat, u &&& x = 0 ↔ ∀ i, ¬ (u.testBit i = true ∧ x.testBit i = true) := fun u => by
    constructor
    · exact fun h i => and_no h i
    · intro h
      apply Nat.eq_of_testBit_eq
      intro i
      rw [Nat.testBit_and, Nat.zero_testBit]
      cases hu : u.testBit i with
      | false => rfl
      | true =>
        cases hx : x.testBit i with
        | false => rfl
        | true => exact absurd ⟨hu, hx⟩ (h i)
  rw [key, key, key]
  constructor
  · intro h
    exact ⟨fun i z => h i ⟨by rw [Nat.testBit_or, z.1]; rfl, z.2⟩, fun i z => h i ⟨by rw [Nat.testBit_or, z.1, Bool.or_true], z.2⟩⟩
  · rintro ⟨h1, h2⟩ i ⟨z1, z2⟩
    rw [Nat.testBit_or, Bool.or_eq_true] at z1
    exact z1.elim (fun z => h1 i ⟨z, z2⟩) (fun z => h2 i ⟨z, z2⟩)
theorem it_disj {st : Nat → Nat} {m x : Nat} : ∀ k, itTo st m k &&& x = 0 ↔ ∀ i, i < k → m.testBit i = true → st i &&& x = 0
  | 0 => by
    constructor
    · exact fun _ i hi => absurd hi (Nat.not_lt_zero i)
    · intro _
      show 0 &&& x = 0
      exact Nat.zero_and x
  | k + 1 => by
    rw [itTo_s]
    constructor
    · intro h i hi hb
      by_cases hk : i = k
      · subst hk
        rw [if_pos hb] at h
        exact (or_and0.mp h).2
      · refine (it_disj k).mp ?_ i (by omega) hb
        split at h
        · exact (or_and0.mp h).1
        · exact h
    · intro h
      have h1 := (it_disj (st := st) (m := m) (x := x) k).mpr (fun i hi hb => h i (by omega) hb)
      split
      · rename_i hb
        exact or_and0.mpr ⟨h1, h k (by omega) hb⟩
      · exact h1
theorem dsj_iff {st : Nat → Nat} {m : Nat} : ∀ n, dsj st m n = true ↔ ∀ i j, i < j → j < n → m.testBit i = true → m.testBit j = true → st i &&& st j = 0
  | 0 => ⟨fun _ i j _ hj => absurd hj (Nat.not_lt_zero j), fun _ => rfl⟩
  | n + 1 => by
    constructor
    · intro h i j hij hj hi hbj
      have h1 := dsj_mono (n + 1) (Nat.le_succ n) h
      by_cases hn : j = n
      · subst hn
        rw [dsj_s, Bool.and_eq_true, hbj] at h
        have h2 : itTo st m j &&& st j = 0 := by simpa using h.2
        exact (it_disj j).mp h2 i hij hi
      · exact (dsj_iff n).mp h1 i j hij (by omega) hi hbj
    · intro h
      have h1 := (dsj_iff (st := st) (m := m) n).mpr (fun i j hij hj => h i j hij (by omega))
      by_cases hb : m.testBit n = true
      · exact dsj_on h1 ((it_disj n).mpr (fun i hi hbi => h i n hi (by omega) hbi hb))
      · exact dsj_in h1 hb
theorem dsj_join {st : Nat → Nat} {m b n : Nat} (h : dsj st m n = true) (hb : b < n) (hd : itTo st m n &&& st b = 0) : dsj st (m ||| 1 <<< b) n = true := by
  rw [dsj_iff] at h ⊢
  have hd := (it_disj n).mp hd
  intro i j hij hj hi hbj
  rw [tb_or, Bool.or_eq_true, decide_eq_true_eq] at hi hbj
  rcases hi with hi | hi
  · rcases hbj with hbj | hbj
    · exact h i j hij hj hi hbj
    · subst hbj
      exact hd i (by omega) hi
  · subst hi
    rcases hbj with hbj | hbj
    · rw [Nat.and_comm]
      exact hd j hj hbj
    · omega
def stkF (S : SaleN) (L : List Nat) : List (Nat × Nat) → Nat × Nat → Nat × Nat
  | [], f => f
  | e :: s, f => stkF S L s (lookL S (L.drop e.1) e.2 f)
theorem look_ge {S : SaleN} : ∀ (L : List Nat) (taken : Nat) (f : Nat × Nat), f.1 + 1 ≤ (lookL S L taken f).1
  | [], taken, f => by
    unfold lookL
    split <;> exact Nat.le_refl _
  | b :: t, taken, f => by
    unfold lookL
    split
    · exact Nat.le_refl _
    · refine Nat.le_trans ?_ (look_ge t taken _)
      split
      · have := look_ge (S := S) t (taken ||| 1 <<< b) (f.1 + 1, f.2)
        change f.1 + 1 + 1 ≤ _ at this
        omega
      · show f.1 + 1 ≤ f.1 + 1 + 1
        omega
theorem stk_ge {S : SaleN} {L : List Nat} : ∀ (s : List (Nat × Nat)) (f : Nat × Nat), f.1 + s.length ≤ (stkF S L s f).1
  | [], f => Nat.le_refl _
  | e :: s, f => by
    have h1 := look_ge (S := S) (L.drop e.1) e.2 f
    have h2 := stk_ge (S := S) (L := L) s (lookL S (L.drop e.1) e.2 f)
    show f.1 + (s.length + 1) ≤ (stkF S L s (lookL S (L.drop e.1) e.2 f)).1
    omega
/-- branches wait in the rows: the last one is the next -/
def StkI (S : SaleN) (L : List Nat) (fb fp : Nat → Nat) (q : Nat) (s : List (Nat × Nat)) : Prop := s.length = q ∧ ∀ i e, s.reverse[i]? = some e → fb i = e.2 ∧ fp i = e.1 ∧ i ≤ e.1 ∧ e.1 ≤ L.length ∧ e.2 < 2 ^ S.ca ∧ dsj S.st e.2 S.ca = true
theorem stk_zero {S : SaleN} (n : Nat) : dsj S.st 0 n = true := by
  rw [dsj_iff]
  intro i j _ _ hi
  rw [Nat.zero_testBit] at hi
  cases hi
theorem stk_start {S : SaleN} {L : List Nat} : StkI S L (fun _ => 0) (fun _ => 0) 1 [(0, 0)] := by
  refine ⟨rfl, fun i e h => ?_⟩
  have hi : i < 1 := (List.getElem?_eq_some_iff.mp h).1
  have : i = 0 := by omega
  subst this
  cases h
  exact ⟨rfl, rfl, Nat.le_refl _, Nat.zero_le _, Nat.two_pow_pos _, stk_zero _⟩
theorem stk_pop {S : SaleN} {L : List Nat} {fb fp : Nat → Nat} {q : Nat} {s : List (Nat × Nat)} (h : StkI S L fb fp q s) (hq : 0 < q) : ∃ p m s2, s = (p, m) :: s2 ∧ fb (q - 1) = m ∧ fp (q - 1) = p ∧ q - 1 ≤ p ∧ p ≤ L.length ∧ m < 2 ^ S.ca ∧ dsj S.st m S.ca = true ∧ StkI S L fb fp (q - 1) s2 := by
  obtain ⟨h1, h2⟩ := h
  cases s with
  | nil => simp at h1; omega
  | cons e s2 =>
    have hl : s2.length = q - 1 := by simp at h1; omega
    have h3 := h2 (q - 1) e (by rw [List.reverse_cons, List.getElem?_append_right (by rw [List.length_reverse]; omega), List.length_reverse, hl, Nat.sub_self]; rfl)
    refine ⟨e.1, e.2, s2, rfl, h3.1, h3.2.1, h3.2.2.1, h3.2.2.2.1, h3.2.2.2.2.1, h3.2.2.2.2.2, hl, fun i x hx => h2 i x ?_⟩
    rw [List.reverse_cons, List.getElem?_append_left (List.getElem?_eq_some_iff.mp hx).1]
    exact hx
theorem stk_push {S : SaleN} {L : List Nat} {fb fp gb gp : Nat → Nat} {q p m : Nat} {s : List (Nat × Nat)} (h : StkI S L fb fp q s) (hb : ∀ i, i < q → gb i = fb i) (hp : ∀ i, i < q → gp i = fp i) (eb : gb q = m) (ep : gp q = p) (h1 : q ≤ p) (h2 : p ≤ L.length) (h3 : m < 2 ^ S.ca) (h4 : dsj S.st m S.ca = true) : StkI S L gb gp (q + 1) ((p, m) :: s) := by
  refine ⟨by rw [List.length_cons, h.1], fun i e he => ?_⟩
  rw [List.reverse_cons] at he
  by_cases hi : i < q
  · rw [List.getElem?_append_left (by rw [List.length_reverse, h.1]; exact hi)] at he
    rw [hb i hi, hp i hi]
    exact h.2 i e he
  · rw [List.getElem?_append_right (by rw [List.length_reverse, h.1]; omega), List.length_reverse, h.1] at he
    have hi2 : i - q < 1 := (List.getElem?_eq_some_iff.mp he).1
    have : i = q := by omega
    subst this
    rw [Nat.sub_self] at he
    cases he
    exact ⟨eb, ep, h1, h2, h3, h4⟩
theorem leaf_max {S : SaleN} {m mo : Nat} (hd : dsj S.st m S.ca = true) : max ((mo : Nat) : Int) (wtZ S m) = (((if allS S m then max mo (worthN S m) else mo) : Nat) : Int) := by
  unfold wtZ
  by_cases hc : allS S m
  · rw [if_pos ⟨hd, hc⟩, if_pos hc]
    omega
  · rw [if_neg (fun z => hc z.2), if_neg hc]
    omega
theorem stk_low {S : SaleN} {L : List Nat} {p m k mo : Nat} {s : List (Nat × Nat)} (h : bdTo S (L.drop p) m 6 < 60 * mo) : stkF S L ((p, m) :: s) (k, 60 * mo) = stkF S L s (k + 1, 60 * mo) := by
  show stkF S L s (lookL S (L.drop p) m (k, 60 * mo)) = _
  rw [look_low h]
theorem stk_leaf {S : SaleN} {L : List Nat} {p m k mo : Nat} {s : List (Nat × Nat)} (h : ¬ bdTo S (L.drop p) m 6 < 60 * mo) (hp : p = L.length) : stkF S L ((p, m) :: s) (k, 60 * mo) = stkF S L s (k + 1, 60 * (if allS S m then max mo (worthN S m) else mo)) := by
  show stkF S L s (lookL S (L.drop p) m (k, 60 * mo)) = _
  rw [look_nil (List.drop_of_length_le (by omega)) h]
  congr 1
  show (k + 1, if allS S m then max (60 * mo) (60 * worthN S m) else 60 * mo) = _
  by_cases hc : allS S m
  · rw [if_pos hc, if_pos hc]
    congr 1
    omega
  · rw [if_neg hc, if_neg hc]
theorem stk_off {S : SaleN} {L : List Nat} {p m k mo b : Nat} {s : List (Nat × Nat)} (h : ¬ bdTo S (L.drop p) m 6 < 60 * mo) (hb : L[p]? = some b) (hd : ¬ itTo S.st m S.ca &&& S.st b = 0) : stkF S L ((p, m) :: s) (k, 60 * mo) = stkF S L ((p + 1, m) :: s) (k + 1, 60 * mo) := by
  show stkF S L s (lookL S (L.drop p) m (k, 60 * mo)) = stkF S L s (lookL S (L.drop (p + 1)) m (k + 1, 60 * mo))
  rw [look_cons (drop_get hb) h, if_neg (by rw [Nat.and_comm]; exact hd)]
theorem stk_on {S : SaleN} {L : List Nat} {p m k mo b : Nat} {s : List (Nat × Nat)} (h : ¬ bdTo S (L.drop p) m 6 < 60 * mo) (hb : L[p]? = some b) (hd : itTo S.st m S.ca &&& S.st b = 0) : stkF S L ((p, m) :: s) (k, 60 * mo) = stkF S L ((p + 1, m ||| 1 <<< b) :: (p + 1, m) :: s) (k + 1, 60 * mo) := by
  show stkF S L s (lookL S (L.drop p) m (k, 60 * mo)) = stkF S L s (lookL S (L.drop (p + 1)) m (lookL S (L.drop (p + 1)) (m ||| 1 <<< b) (k + 1, 60 * mo)))
  rw [look_cons (drop_get hb) h, if_pos (by rw [Nat.and_comm]; exact hd)]
theorem worth_le {S : SaleN} (hS : SaleOK S) (m : Nat) : worthN S m ≤ 1044 := by
  have h1 := pr_le hS m
  have h2 := rbTo_le (rs := S.rs) (items := itTo S.st m S.ca) 6 (Nat.le_refl _) hS.2.2.2.2
  unfold worthN
  omega
theorem leaf_le {S : SaleN} (hS : SaleOK S) {m mo : Nat} (h : mo ≤ 2000) : (if allS S m then max mo (worthN S m) else mo) ≤ 2000 := by
  have := worth_le hS m
  split
  · omega
  · exact h

theorem bX7_looked_0_1 {l : Launch} {E : XE} : Snd l E mX7_looked 0 1 (xs [x_aload 0]) := Snd.cons (snd_aload_n (i := 0) dX7_looked_0 rfl) Snd.nil
theorem bX7_looked_4_5 {l : Launch} {E : XE} : Snd l E mX7_looked 4 5 (xs [x_aload 0]) := Snd.cons (snd_aload_n (i := 0) dX7_looked_4 rfl) Snd.nil
theorem bX7_looked_8_10 {l : Launch} {E : XE} : Snd l E mX7_looked 8 10 (xs [x_push (.int (nI 20))]) := Snd.cons (snd_bipush (v := nI 20) dX7_looked_8 (by decide)) Snd.nil
theorem bX7_looked_12_15 {l : Launch} {E : XE} : Snd l E mX7_looked 12 15 (xs [x_astore 1, x_push (.int (nI 20))]) := Snd.cons (snd_astore_n (i := 1) dX7_looked_12 rfl (by decide)) (Snd.cons (snd_bipush (v := nI 20) dX7_looked_13 (by decide)) Snd.nil)
theorem bX7_looked_17_26 {l : Launch} {E : XE} : Snd l E mX7_looked 17 26 (xs [x_astore 2, x_push (.int (nI 1)), x_istore 3, x_push (.int (nI 0)), x_istore 4, x_push (.int (nI 0)), x_istore 5]) := Snd.cons (snd_astore_n (i := 2) dX7_looked_17 rfl (by decide)) (Snd.cons (snd_iconst (v := nI 1) dX7_looked_18 (by decide)) (Snd.cons (snd_istore_n (i := 3) dX7_looked_19 rfl (by decide)) (Snd.cons (snd_iconst (v := nI 0) dX7_looked_20 (by decide)) (Snd.cons (snd_istore dX7_looked_21 (by decide)) (Snd.cons (snd_iconst (v := nI 0) dX7_looked_23 (by decide)) (Snd.cons (snd_istore dX7_looked_24 (by decide)) Snd.nil))))))
theorem bX7_looked_26_27 {l : Launch} {E : XE} : Snd l E mX7_looked 26 27 (xs [x_iload 3]) := Snd.cons (snd_iload_n (i := 3) dX7_looked_26 rfl) Snd.nil
theorem bX7_looked_155_157 {l : Launch} {E : XE} : Snd l E mX7_looked 155 157 (xs [x_iload 5]) := Snd.cons (snd_iload dX7_looked_155) Snd.nil
theorem bX7_looked_33_35 {l : Launch} {E : XE} : Snd l E mX7_looked 33 35 (xs [x_aload 1, x_iload 3]) := Snd.cons (snd_aload_n (i := 1) dX7_looked_33 rfl) (Snd.cons (snd_iload_n (i := 3) dX7_looked_34 rfl) Snd.nil)
theorem bX7_looked_36_40 {l : Launch} {E : XE} : Snd l E mX7_looked 36 40 (xs [x_istore 6, x_aload 2, x_iload 3]) := Snd.cons (snd_istore dX7_looked_36 (by decide)) (Snd.cons (snd_aload_n (i := 2) dX7_looked_38 rfl) (Snd.cons (snd_iload_n (i := 3) dX7_looked_39 rfl) Snd.nil))
theorem bX7_looked_41_43 {l : Launch} {E : XE} : Snd l E mX7_looked 41 43 (xs [x_istore 7]) := Snd.cons (snd_istore dX7_looked_41 (by decide)) Snd.nil
theorem bX7_looked_46_51 {l : Launch} {E : XE} : Snd l E mX7_looked 46 51 (xs [x_aload 0, x_iload 6, x_iload 7]) := Snd.cons (snd_aload_n (i := 0) dX7_looked_46 rfl) (Snd.cons (snd_iload dX7_looked_47) (Snd.cons (snd_iload dX7_looked_49) Snd.nil))
theorem bX7_looked_54_58 {l : Launch} {E : XE} : Snd l E mX7_looked 54 58 (xs [x_push (.int (nI 60)), x_iload 4]) := Snd.cons (snd_bipush (v := nI 60) dX7_looked_54 (by decide)) (Snd.cons (snd_iload dX7_looked_56) Snd.nil)
theorem bX7_looked_65_71 {l : Launch} {E : XE} : Snd l E mX7_looked 65 71 (xs [x_iload 7, x_aload 0, x_get 8 23]) := Snd.cons (snd_iload dX7_looked_65) (Snd.cons (snd_aload_n (i := 0) dX7_looked_67 rfl) (Snd.cons (snd_get (ci := 8) (k := 23) dX7_looked_68 rfl inX7 (by decide) tw_937) Snd.nil))
theorem bX7_looked_91_96 {l : Launch} {E : XE} : Snd l E mX7_looked 91 96 (xs [x_aload 2, x_iload 3, x_iload 7, x_push (.int (nI 1))]) := Snd.cons (snd_aload_n (i := 2) dX7_looked_91 rfl) (Snd.cons (snd_iload_n (i := 3) dX7_looked_92 rfl) (Snd.cons (snd_iload dX7_looked_93) (Snd.cons (snd_iconst (v := nI 1) dX7_looked_95 (by decide)) Snd.nil)))
theorem bX7_looked_101_107 {l : Launch} {E : XE} : Snd l E mX7_looked 101 107 (xs [x_aload 0, x_get 8 10, x_iload 6]) := Snd.cons (snd_aload_n (i := 0) dX7_looked_101 rfl) (Snd.cons (snd_get (ci := 8) (k := 10) dX7_looked_102 rfl inX7 (by decide) tw_924) (Snd.cons (snd_iload dX7_looked_105) Snd.nil))
theorem bX7_looked_108_118 {l : Launch} {E : XE} : Snd l E mX7_looked 108 118 (xs [x_aload 0, x_get 8 4, x_aload 0, x_get 8 22, x_iload 7]) := Snd.cons (snd_aload_n (i := 0) dX7_looked_108 rfl) (Snd.cons (snd_get (ci := 8) (k := 4) dX7_looked_109 rfl inX7 (by decide) tw_918) (Snd.cons (snd_aload_n (i := 0) dX7_looked_112 rfl) (Snd.cons (snd_get (ci := 8) (k := 22) dX7_looked_113 rfl inX7 (by decide) tw_936) (Snd.cons (snd_iload dX7_looked_116) Snd.nil))))
theorem bX7_looked_127_138 {l : Launch} {E : XE} : Snd l E mX7_looked 127 138 (xs [x_aload 1, x_iload 3, x_iload 6, x_push (.int (nI 1)), x_aload 0, x_get 8 22, x_iload 7]) := Snd.cons (snd_aload_n (i := 1) dX7_looked_127 rfl) (Snd.cons (snd_iload_n (i := 3) dX7_looked_128 rfl) (Snd.cons (snd_iload dX7_looked_129) (Snd.cons (snd_iconst (v := nI 1) dX7_looked_131 (by decide)) (Snd.cons (snd_aload_n (i := 0) dX7_looked_132 rfl) (Snd.cons (snd_get (ci := 8) (k := 22) dX7_looked_133 rfl inX7 (by decide) tw_936) (Snd.cons (snd_iload dX7_looked_136) Snd.nil))))))
theorem bX7_looked_142_147 {l : Launch} {E : XE} : Snd l E mX7_looked 142 147 (xs [x_aload 2, x_iload 3, x_iload 7, x_push (.int (nI 1))]) := Snd.cons (snd_aload_n (i := 2) dX7_looked_142 rfl) (Snd.cons (snd_iload_n (i := 3) dX7_looked_143 rfl) (Snd.cons (snd_iload dX7_looked_144) (Snd.cons (snd_iconst (v := nI 1) dX7_looked_146 (by decide)) Snd.nil)))
theorem bX7_looked_152_26 {l : Launch} {E : XE} : Snd l E mX7_looked 152 26 (xs [x_id]) := Snd.cons (snd_goto (tgt := 26) dX7_looked_152 (by decide)) Snd.nil
theorem bX7_looked_124_26 {l : Launch} {E : XE} : Snd l E mX7_looked 124 26 (xs [x_id]) := Snd.cons (snd_goto (tgt := 26) dX7_looked_124 (by decide)) Snd.nil
theorem bX7_looked_74_82 {l : Launch} {E : XE} : Snd l E mX7_looked 74 82 (xs [x_iload 4, x_aload 0, x_get 8 9, x_iload 6]) := Snd.cons (snd_iload dX7_looked_74) (Snd.cons (snd_aload_n (i := 0) dX7_looked_76 rfl) (Snd.cons (snd_get (ci := 8) (k := 9) dX7_looked_77 rfl inX7 (by decide) tw_923) (Snd.cons (snd_iload dX7_looked_80) Snd.nil)))
theorem bX7_looked_86_26 {l : Launch} {E : XE} : Snd l E mX7_looked 86 26 (xs [x_istore 4, x_id]) := Snd.cons (snd_istore dX7_looked_86 (by decide)) (Snd.cons (snd_goto (tgt := 26) dX7_looked_88 (by decide)) Snd.nil)
theorem bX7_looked_62_26 {l : Launch} {E : XE} : Snd l E mX7_looked 62 26 (xs [x_id]) := Snd.cons (snd_goto (tgt := 26) dX7_looked_62 (by decide)) Snd.nil
set_option maxHeartbeats 4000000 in
set_option maxRecDepth 100000 in
theorem m_X7_looked_n {l : Launch} {E : XE} (S : SaleN) (X : ModN) (hS : SaleOK S) (hM : MOK S X) : MetE l E mX7_looked (4) 2 40 [.ref 0] (modW 0 S X none) (fun r w' => r = some (.int (nI (lookL S (ordN S S.ca) 0 (0, 0)).1)) ∧ ∃ (wo ta : Nat → Int) (ow oo : Nat → Nat), w' = modW 0 S ((X.rf, wo, ta, ow, 0, X.sh, X.lt, X.ty, X.pl, X.nu, X.od, X.tt, oo, (ordN S S.ca).length, X.wn, X.pd, X.li, X.rr, X.rn, X.dr) : ModN) none ∧ TabF S wo ta) := by
  refine MetE.of (by decide +kernel) (Nat.le_of_ble_eq_true rfl) ?_
  have hca := hS.1
  have hpw := pow_ca hS
  have hlo := ordN_len S S.ca
  have hshl := shl_le hS
  refine ev_eq (lv' := [(0, .ref 0)]) (st' := []) (w' := modW 0 S X none) rfl rfl rfl ?_
  refine ev_b bX7_looked_0_1 (lv' := [(0, .ref 0)]) (st' := [.ref 0]) (w2 := modW 0 S X none) rfl ?_
  refine ev_callM (Yc := mX7_table) (st := []) dX7_looked_1 tw_1112 kX7_table (m_X7_table_g S S.kd S.fg X none hS (kf_self hM.1) hM.2) rfl rfl rfl rfl (by decide) (Nat.le_of_ble_eq_true rfl) (Nat.le_of_ble_eq_true rfl) (Nat.le_of_ble_eq_true rfl) (fun r w' h => by obtain ⟨-, wo, ta, ow, rfl, -⟩ := h; exact mod_eq) ?_
  rintro _ _ ⟨rfl, wo, ta, ow, rfl, hT⟩
  refine ev_eq (lv' := [(0, .ref 0)]) (st' := []) (w' := modW 0 S ((X.rf, wo, ta, ow, 0, X.sh, X.lt, X.ty, X.pl, X.nu, X.od, X.tt, X.oo, X.on, X.wn, X.pd, X.li, X.rr, X.rn, X.dr) : ModN) none) rfl rfl rfl ?_
  refine ev_b bX7_looked_4_5 (lv' := [(0, .ref 0)]) (st' := [.ref 0]) (w2 := modW 0 S ((X.rf, wo, ta, ow, 0, X.sh, X.lt, X.ty, X.pl, X.nu, X.od, X.tt, X.oo, X.on, X.wn, X.pd, X.li, X.rr, X.rn, X.dr) : ModN) none) rfl ?_
  refine ev_callM (Yc := mX7_findOrder) (st := []) dX7_looked_5 tw_1147 kX7_findOrder (m_X7_findOrder S ((X.rf, wo, ta, ow, 0, X.sh, X.lt, X.ty, X.pl, X.nu, X.od, X.tt, X.oo, X.on, X.wn, X.pd, X.li, X.rr, X.rn, X.dr) : ModN) none hS) rfl rfl rfl rfl (by decide) (Nat.le_of_ble_eq_true rfl) (Nat.le_of_ble_eq_true rfl) (Nat.le_of_ble_eq_true rfl) (fun r w' h => by obtain ⟨-, oo, rfl, -⟩ := h; exact mod_eq) ?_
  rintro _ _ ⟨rfl, oo, rfl, hO⟩
  refine ev_eq (lv' := [(0, .ref 0)]) (st' := []) (w' := modW 0 S ((X.rf, wo, ta, ow, 0, X.sh, X.lt, X.ty, X.pl, X.nu, X.od, X.tt, oo, (ordN S S.ca).length, X.wn, X.pd, X.li, X.rr, X.rn, X.dr) : ModN) none) rfl rfl rfl ?_
  refine ev_b bX7_looked_8_10 (lv' := [(0, .ref 0)]) (st' := [.int (nI (20))]) (w2 := modW 0 S ((X.rf, wo, ta, ow, 0, X.sh, X.lt, X.ty, X.pl, X.nu, X.od, X.tt, oo, (ordN S S.ca).length, X.wn, X.pd, X.li, X.rr, X.rn, X.dr) : ModN) none) rfl ?_
  refine ev_newi dX7_looked_10 tw_69 (Nat.le_of_ble_eq_true rfl) rfl rfl rfl (Nat.le_of_ble_eq_true rfl) (Nat.le_of_ble_eq_true rfl) (Nat.le_of_ble_eq_true rfl) ?_
  refine ev_eq (st' := [.ref 19]) (w' := modW 0 S ((X.rf, wo, ta, ow, 0, X.sh, X.lt, X.ty, X.pl, X.nu, X.od, X.tt, oo, (ordN S S.ca).length, X.wn, X.pd, X.li, X.rr, X.rn, X.dr) : ModN) none ++ row20 19 ((fun _ => 0))) rfl rfl rfl ?_
  refine ev_b bX7_looked_12_15 (lv' := [(1, .ref 19), (0, .ref 0)]) (st' := [.int (nI (20))]) (w2 := modW 0 S ((X.rf, wo, ta, ow, 0, X.sh, X.lt, X.ty, X.pl, X.nu, X.od, X.tt, oo, (ordN S S.ca).length, X.wn, X.pd, X.li, X.rr, X.rn, X.dr) : ModN) none ++ row20 19 ((fun _ => 0))) rfl ?_
  refine ev_newi dX7_looked_15 tw_69 (Nat.le_of_ble_eq_true rfl) rfl rfl rfl (Nat.le_of_ble_eq_true rfl) (Nat.le_of_ble_eq_true rfl) (Nat.le_of_ble_eq_true rfl) ?_
  refine ev_eq (st' := [.ref 20]) (w' := modW 0 S ((X.rf, wo, ta, ow, 0, X.sh, X.lt, X.ty, X.pl, X.nu, X.od, X.tt, oo, (ordN S S.ca).length, X.wn, X.pd, X.li, X.rr, X.rn, X.dr) : ModN) none ++ row20 19 ((fun _ => 0)) ++ row20 20 ((fun _ => 0))) rfl rfl rfl ?_
  refine ev_b bX7_looked_17_26 (lv' := [(5, .int (nI (0))), (4, .int (nI (0))), (3, .int (nI (1))), (2, .ref 20), (1, .ref 19), (0, .ref 0)]) (st' := []) (w2 := modW 0 S ((X.rf, wo, ta, ow, 0, X.sh, X.lt, X.ty, X.pl, X.nu, X.od, X.tt, oo, (ordN S S.ca).length, X.wn, X.pd, X.li, X.rr, X.rn, X.dr) : ModN) none ++ row20 19 ((fun _ => 0)) ++ row20 20 ((fun _ => 0))) rfl ?_
  have L26 : ∀ (j_ k : Nat), k + j_ = (lookL S (ordN S S.ca) 0 (0, 0)).1 → ∀ (fb fp : Nat → Nat) (s : List (Nat × Nat)) (q mo : Nat), (StkI S (ordN S S.ca) fb fp q s ∧ stkF S (ordN S S.ca) s (k, 60 * mo) = (lookL S (ordN S S.ca) 0 (0, 0)) ∧ mo ≤ 2000) → Ev l E mX7_looked (4) 2 40 (modW 0 S X none) (fun r w' => r = some (.int (nI (lookL S (ordN S S.ca) 0 (0, 0)).1)) ∧ ∃ (wo ta : Nat → Int) (ow oo : Nat → Nat), w' = modW 0 S ((X.rf, wo, ta, ow, 0, X.sh, X.lt, X.ty, X.pl, X.nu, X.od, X.tt, oo, (ordN S S.ca).length, X.wn, X.pd, X.li, X.rr, X.rn, X.dr) : ModN) none ∧ TabF S wo ta) 2 40 26 [(3, .int (nI (q))), (4, .int (nI (mo))), (5, .int (nI (k))), (0, .ref 0), (1, .ref 19), (2, .ref 20)] [] (modW 0 S ((X.rf, wo, ta, ow, 0, X.sh, X.lt, X.ty, X.pl, X.nu, X.od, X.tt, oo, (ordN S S.ca).length, X.wn, X.pd, X.li, X.rr, X.rn, X.dr) : ModN) none ++ row20 19 fb ++ row20 20 fp) := by
    intro j_
    induction j_ with
    | zero =>
      intro k hk26 fb fp s q mo hinv26
      replace hk26 : k = (lookL S (ordN S S.ca) 0 (0, 0)).1 := hk26
      have hge := stk_ge (S := S) (L := (ordN S S.ca)) s (k, 60 * mo)
      rw [hinv26.2.1] at hge
      have hge : k + s.length ≤ (lookL S (ordN S S.ca) 0 (0, 0)).1 := hge
      have hsq := hinv26.1.1
      refine ev_b bX7_looked_26_27 (lv' := [(3, .int (nI (q))), (4, .int (nI (mo))), (5, .int (nI (k))), (0, .ref 0), (1, .ref 19), (2, .ref 20)]) (st' := [.int (nI (q))]) (w2 := modW 0 S ((X.rf, wo, ta, ow, 0, X.sh, X.lt, X.ty, X.pl, X.nu, X.od, X.tt, oo, (ordN S S.ca).length, X.wn, X.pd, X.li, X.rr, X.rn, X.dr) : ModN) none ++ row20 19 fb ++ row20 20 fp) rfl ?_
      refine ev_if_le_n (tgt := 155) (by omega) dX7_looked_27 (by decide) (fun h27 => ?_) (fun h27 => (by exfalso; omega))
      refine ev_drop ?_
      refine ev_drop ?_
      refine ev_b bX7_looked_155_157 (lv' := [(3, .int (nI (q))), (4, .int (nI (mo))), (5, .int (nI (k))), (0, .ref 0), (1, .ref 19), (2, .ref 20)]) (st' := [.int (nI (k))]) (w2 := modW 0 S ((X.rf, wo, ta, ow, 0, X.sh, X.lt, X.ty, X.pl, X.nu, X.od, X.tt, oo, (ordN S S.ca).length, X.wn, X.pd, X.li, X.rr, X.rn, X.dr) : ModN) none) rfl ?_
      exact ev_iret dX7_looked_157 rfl mod_le (Nat.le_of_ble_eq_true rfl) (Nat.le_of_ble_eq_true rfl) ⟨by rw [hk26], wo, ta, ow, oo, rfl, hT⟩
    | succ j_ ih26 =>
      intro k hk26 fb fp s q mo hinv26
      have hlt26 : k < (lookL S (ordN S S.ca) 0 (0, 0)).1 := by omega
      have hge := stk_ge (S := S) (L := (ordN S S.ca)) s (k, 60 * mo)
      rw [hinv26.2.1] at hge
      have hge : k + s.length ≤ (lookL S (ordN S S.ca) 0 (0, 0)).1 := hge
      have hsq := hinv26.1.1
      have hq1 : 0 < q := Nat.pos_of_ne_zero (fun z => by
        have h9 := hinv26.2.1
        rw [List.eq_nil_of_length_eq_zero (hsq.trans z)] at h9
        have h8 : k = (lookL S (ordN S S.ca) 0 (0, 0)).1 := congrArg Prod.fst h9
        omega)
      obtain ⟨p, m, s2, es, hfb, hfp, hqp, hp, hm2, hdm, hI⟩ := stk_pop hinv26.1 hq1
      subst es
      have hm1 : m < 1 <<< S.ca := by rw [Nat.one_shiftLeft]; exact hm2
      have hta : ta m = ((itTo S.st m S.ca : Nat) : Int) := ((hT m hm1).2).trans (if_pos hdm)
      have hwm := (hT m hm1).1
      have hwb := wt_bnd hS m
      refine ev_b bX7_looked_26_27 (lv' := [(3, .int (nI (q))), (4, .int (nI (mo))), (5, .int (nI (k))), (0, .ref 0), (1, .ref 19), (2, .ref 20)]) (st' := [.int (nI (q))]) (w2 := modW 0 S ((X.rf, wo, ta, ow, 0, X.sh, X.lt, X.ty, X.pl, X.nu, X.od, X.tt, oo, (ordN S S.ca).length, X.wn, X.pd, X.li, X.rr, X.rn, X.dr) : ModN) none ++ row20 19 fb ++ row20 20 fp) rfl ?_
      refine ev_if_le_n (tgt := 155) (by omega) dX7_looked_27 (by decide) (fun h27 => (by exfalso; omega)) (fun h27 => ?_)
      refine ev_idec_n (x := q) dX7_looked_30 rfl (by decide) (by omega) ?_
      refine ev_eq (lv' := [(3, .int (nI (q - 1))), (4, .int (nI (mo))), (5, .int (nI (k))), (0, .ref 0), (1, .ref 19), (2, .ref 20)]) rfl rfl rfl ?_
      refine ev_b bX7_looked_33_35 (lv' := [(3, .int (nI (q - 1))), (4, .int (nI (mo))), (5, .int (nI (k))), (0, .ref 0), (1, .ref 19), (2, .ref 20)]) (st' := [.int (nI (q - 1)), .ref 19]) (w2 := modW 0 S ((X.rf, wo, ta, ow, 0, X.sh, X.lt, X.ty, X.pl, X.nu, X.od, X.tt, oo, (ordN S S.ca).length, X.wn, X.pd, X.li, X.rr, X.rn, X.dr) : ModN) none ++ row20 19 fb ++ row20 20 fp) rfl ?_
      refine ev_iald_n (f := fb) dX7_looked_35 rfl (by omega) (by decide) ?_
      refine ev_top (y := (nI (m))) (congrArg nI (show fb (q - 1) = m from by exact hfb)) ?_
      refine ev_b bX7_looked_36_40 (lv' := [(6, .int (nI (m))), (3, .int (nI (q - 1))), (4, .int (nI (mo))), (5, .int (nI (k))), (0, .ref 0), (1, .ref 19), (2, .ref 20)]) (st' := [.int (nI (q - 1)), .ref 20]) (w2 := modW 0 S ((X.rf, wo, ta, ow, 0, X.sh, X.lt, X.ty, X.pl, X.nu, X.od, X.tt, oo, (ordN S S.ca).length, X.wn, X.pd, X.li, X.rr, X.rn, X.dr) : ModN) none ++ row20 19 fb ++ row20 20 fp) rfl ?_
      refine ev_iald_n (f := fp) dX7_looked_40 rfl (by omega) (by decide) ?_
      refine ev_top (y := (nI (p))) (congrArg nI (show fp (q - 1) = p from by exact hfp)) ?_
      refine ev_b bX7_looked_41_43 (lv' := [(7, .int (nI (p))), (6, .int (nI (m))), (3, .int (nI (q - 1))), (4, .int (nI (mo))), (5, .int (nI (k))), (0, .ref 0), (1, .ref 19), (2, .ref 20)]) (st' := []) (w2 := modW 0 S ((X.rf, wo, ta, ow, 0, X.sh, X.lt, X.ty, X.pl, X.nu, X.od, X.tt, oo, (ordN S S.ca).length, X.wn, X.pd, X.li, X.rr, X.rn, X.dr) : ModN) none ++ row20 19 fb ++ row20 20 fp) rfl ?_
      refine ev_iinc_n (x := k) (v := 1) dX7_looked_43 rfl (by decide) ?_
      refine ev_eq (lv' := [(5, .int (nI (k + 1))), (7, .int (nI (p))), (6, .int (nI (m))), (3, .int (nI (q - 1))), (4, .int (nI (mo))), (0, .ref 0), (1, .ref 19), (2, .ref 20)]) rfl rfl rfl ?_
      refine ev_b bX7_looked_46_51 (lv' := [(5, .int (nI (k + 1))), (7, .int (nI (p))), (6, .int (nI (m))), (3, .int (nI (q - 1))), (4, .int (nI (mo))), (0, .ref 0), (1, .ref 19), (2, .ref 20)]) (st' := [.int (nI (p)), .int (nI (m)), .ref 0]) (w2 := modW 0 S ((X.rf, wo, ta, ow, 0, X.sh, X.lt, X.ty, X.pl, X.nu, X.od, X.tt, oo, (ordN S S.ca).length, X.wn, X.pd, X.li, X.rr, X.rn, X.dr) : ModN) none ++ row20 19 fb ++ row20 20 fp) rfl ?_
      refine ev_callP (Yc := mX7_boundOf) (st := []) (A := modW 0 S ((X.rf, wo, ta, ow, 0, X.sh, X.lt, X.ty, X.pl, X.nu, X.od, X.tt, oo, (ordN S S.ca).length, X.wn, X.pd, X.li, X.rr, X.rn, X.dr) : ModN) none) (R := row20 19 fb ++ row20 20 fp) dX7_looked_51 tw_1183 kX7_boundOf (m_X7_boundOf S ((X.rf, wo, ta, ow, 0, X.sh, X.lt, X.ty, X.pl, X.nu, X.od, X.tt, oo, (ordN S S.ca).length, X.wn, X.pd, X.li, X.rr, X.rn, X.dr) : ModN) none (ordN S S.ca) m p hS hta (by omega) hO (ordN_mem S S.ca) rfl (by omega) hp) rfl rfl rfl mod_xek rfl rfl (by decide) (Nat.le_of_ble_eq_true rfl) (Nat.le_of_ble_eq_true rfl) (Nat.le_of_ble_eq_true rfl) (fun r w' h => by obtain ⟨rfl, rfl⟩ := h; exact ⟨mod_eq, mod_xek, rfl⟩) ?_
      rintro _ _ ⟨rfl, rfl⟩
      refine ev_eq (lv' := [(5, .int (nI (k + 1))), (7, .int (nI (p))), (6, .int (nI (m))), (3, .int (nI (q - 1))), (4, .int (nI (mo))), (0, .ref 0), (1, .ref 19), (2, .ref 20)]) (st' := [.int (nI (bdTo S ((ordN S S.ca).drop p) m 6))]) (w' := modW 0 S ((X.rf, wo, ta, ow, 0, X.sh, X.lt, X.ty, X.pl, X.nu, X.od, X.tt, oo, (ordN S S.ca).length, X.wn, X.pd, X.li, X.rr, X.rn, X.dr) : ModN) none ++ row20 19 fb ++ row20 20 fp) rfl rfl rfl ?_
      have hbd := bdTo_le hS (L := (ordN S S.ca).drop p) (fun x hx => ordN_mem S S.ca x (List.mem_of_mem_drop hx)) (taken := m) 6 (Nat.le_refl _)
      refine ev_b bX7_looked_54_58 (lv' := [(5, .int (nI (k + 1))), (7, .int (nI (p))), (6, .int (nI (m))), (3, .int (nI (q - 1))), (4, .int (nI (mo))), (0, .ref 0), (1, .ref 19), (2, .ref 20)]) (st' := [.int (nI (mo)), .int (nI (60)), .int (nI (bdTo S ((ordN S S.ca).drop p) m 6))]) (w2 := modW 0 S ((X.rf, wo, ta, ow, 0, X.sh, X.lt, X.ty, X.pl, X.nu, X.od, X.tt, oo, (ordN S S.ca).length, X.wn, X.pd, X.li, X.rr, X.rn, X.dr) : ModN) none ++ row20 19 fb ++ row20 20 fp) rfl ?_
      refine ev_imul_n dX7_looked_58 ?_
      refine ev_icmp_ge_n (tgt := 65) (by omega) (by omega) dX7_looked_59 (by decide) (fun h59 => ?_) (fun h59 => ?_)
      · skip
        replace h59 := Nat.not_lt.mpr h59
        refine ev_b bX7_looked_65_71 (lv' := [(5, .int (nI (k + 1))), (7, .int (nI (p))), (6, .int (nI (m))), (3, .int (nI (q - 1))), (4, .int (nI (mo))), (0, .ref 0), (1, .ref 19), (2, .ref 20)]) (st' := [.int (nI ((ordN S S.ca).length)), .int (nI (p))]) (w2 := modW 0 S ((X.rf, wo, ta, ow, 0, X.sh, X.lt, X.ty, X.pl, X.nu, X.od, X.tt, oo, (ordN S S.ca).length, X.wn, X.pd, X.li, X.rr, X.rn, X.dr) : ModN) none ++ row20 19 fb ++ row20 20 fp) rfl ?_
        refine ev_icmp_ne_n (tgt := 91) (by omega) (by omega) dX7_looked_71 (by decide) (fun h71 => ?_) (fun h71 => ?_)
        · skip
          obtain ⟨b, eb, eo, ebc⟩ := ord_lt hO (ordN_mem S S.ca) (show p < (ordN S S.ca).length by omega)
          have hI2 : StkI S (ordN S S.ca) fb (up fp (q - 1) (p + 1)) (q - 1 + 1) ((p + 1, m) :: s2) := stk_push hI (fun _ _ => rfl) (fun i hi => up_ne (by omega)) hfb (up_at _ _ _) (by omega) (by omega) hm2 hdm
          refine ev_b bX7_looked_91_96 (lv' := [(5, .int (nI (k + 1))), (7, .int (nI (p))), (6, .int (nI (m))), (3, .int (nI (q - 1))), (4, .int (nI (mo))), (0, .ref 0), (1, .ref 19), (2, .ref 20)]) (st' := [.int (nI (1)), .int (nI (p)), .int (nI (q - 1)), .ref 20]) (w2 := modW 0 S ((X.rf, wo, ta, ow, 0, X.sh, X.lt, X.ty, X.pl, X.nu, X.od, X.tt, oo, (ordN S S.ca).length, X.wn, X.pd, X.li, X.rr, X.rn, X.dr) : ModN) none ++ row20 19 fb ++ row20 20 fp) rfl ?_
          refine ev_iadd_n dX7_looked_96 ?_
          refine ev_iast_n (f := fp) dX7_looked_97 rfl (by omega) (by decide) ?_
          refine ev_eq (w' := modW 0 S ((X.rf, wo, ta, ow, 0, X.sh, X.lt, X.ty, X.pl, X.nu, X.od, X.tt, oo, (ordN S S.ca).length, X.wn, X.pd, X.li, X.rr, X.rn, X.dr) : ModN) none ++ row20 19 fb ++ row20 20 (up fp (q - 1) (p + 1))) rfl rfl rfl ?_
          refine ev_iinc_n (x := q - 1) (v := 1) dX7_looked_98 rfl (by decide) ?_
          refine ev_eq (lv' := [(3, .int (nI ((q - 1) + 1))), (5, .int (nI (k + 1))), (7, .int (nI (p))), (6, .int (nI (m))), (4, .int (nI (mo))), (0, .ref 0), (1, .ref 19), (2, .ref 20)]) rfl rfl rfl ?_
          refine ev_b bX7_looked_101_107 (lv' := [(3, .int (nI ((q - 1) + 1))), (5, .int (nI (k + 1))), (7, .int (nI (p))), (6, .int (nI (m))), (4, .int (nI (mo))), (0, .ref 0), (1, .ref 19), (2, .ref 20)]) (st' := [.int (nI (m)), .ref 9]) (w2 := modW 0 S ((X.rf, wo, ta, ow, 0, X.sh, X.lt, X.ty, X.pl, X.nu, X.od, X.tt, oo, (ordN S S.ca).length, X.wn, X.pd, X.li, X.rr, X.rn, X.dr) : ModN) none ++ row20 19 fb ++ row20 20 (up fp (q - 1) (p + 1))) rfl ?_
          refine ev_iald_z (f := ta) dX7_looked_107 rfl (by omega) (by decide) ?_
          refine ev_top (y := (nI (itTo S.st m S.ca))) (by rw [show ta m = ((itTo S.st m S.ca : Nat) : Int) from by exact hta]; exact zI_nat _) ?_
          refine ev_b bX7_looked_108_118 (lv' := [(3, .int (nI ((q - 1) + 1))), (5, .int (nI (k + 1))), (7, .int (nI (p))), (6, .int (nI (m))), (4, .int (nI (mo))), (0, .ref 0), (1, .ref 19), (2, .ref 20)]) (st' := [.int (nI (p)), .ref 15, .ref 5, .int (nI (itTo S.st m S.ca))]) (w2 := modW 0 S ((X.rf, wo, ta, ow, 0, X.sh, X.lt, X.ty, X.pl, X.nu, X.od, X.tt, oo, (ordN S S.ca).length, X.wn, X.pd, X.li, X.rr, X.rn, X.dr) : ModN) none ++ row20 19 fb ++ row20 20 (up fp (q - 1) (p + 1))) rfl ?_
          refine ev_iald_n (f := oo) dX7_looked_118 rfl (by omega) (by decide) ?_
          refine ev_top (y := (nI (b))) (congrArg nI (show oo p = b from by exact eo)) ?_
          refine ev_iald_n (f := S.st) dX7_looked_119 rfl (by omega) (by decide) ?_
          refine ev_iand_n dX7_looked_120 ?_
          refine ev_if_eq_n (tgt := 127) (by exact Nat.lt_of_le_of_lt Nat.and_le_right (by have := (hS.2.2.1 b ebc).2.2.1; omega)) dX7_looked_121 (by decide) (fun h121 => ?_) (fun h121 => ?_)
          · skip
            have hI3 : StkI S (ordN S S.ca) (up fb (q - 1 + 1) (m ||| 1 <<< b)) (up (up fp (q - 1) (p + 1)) (q - 1 + 1) (p + 1)) (q - 1 + 1 + 1) ((p + 1, m ||| 1 <<< b) :: (p + 1, m) :: s2) := stk_push hI2 (fun i hi => up_ne (by omega)) (fun i hi => up_ne (by omega)) (up_at _ _ _) (up_at _ _ _) (by omega) (by omega) (or_lt hm2 (shl_lt ebc)) (dsj_join hdm ebc h121)
            have hnext := And.intro hI3 (And.intro ((stk_on (k := k) (s := s2) h59 eb h121).symm.trans hinv26.2.1) hinv26.2.2)
            refine ev_b bX7_looked_127_138 (lv' := [(3, .int (nI ((q - 1) + 1))), (5, .int (nI (k + 1))), (7, .int (nI (p))), (6, .int (nI (m))), (4, .int (nI (mo))), (0, .ref 0), (1, .ref 19), (2, .ref 20)]) (st' := [.int (nI (p)), .ref 15, .int (nI (1)), .int (nI (m)), .int (nI ((q - 1) + 1)), .ref 19]) (w2 := modW 0 S ((X.rf, wo, ta, ow, 0, X.sh, X.lt, X.ty, X.pl, X.nu, X.od, X.tt, oo, (ordN S S.ca).length, X.wn, X.pd, X.li, X.rr, X.rn, X.dr) : ModN) none ++ row20 19 fb ++ row20 20 (up fp (q - 1) (p + 1))) rfl ?_
            refine ev_iald_n (f := oo) dX7_looked_138 rfl (by omega) (by decide) ?_
            refine ev_top (y := (nI (b))) (congrArg nI (show oo p = b from by exact eo)) ?_
            refine ev_ishl_n (by omega) dX7_looked_139 ?_
            refine ev_ior_n dX7_looked_140 ?_
            refine ev_iast_n (f := fb) dX7_looked_141 rfl (by omega) (by decide) ?_
            refine ev_eq (w' := modW 0 S ((X.rf, wo, ta, ow, 0, X.sh, X.lt, X.ty, X.pl, X.nu, X.od, X.tt, oo, (ordN S S.ca).length, X.wn, X.pd, X.li, X.rr, X.rn, X.dr) : ModN) none ++ row20 19 (up fb ((q - 1) + 1) (m ||| (1 <<< b))) ++ row20 20 (up fp (q - 1) (p + 1))) rfl rfl rfl ?_
            refine ev_b bX7_looked_142_147 (lv' := [(3, .int (nI ((q - 1) + 1))), (5, .int (nI (k + 1))), (7, .int (nI (p))), (6, .int (nI (m))), (4, .int (nI (mo))), (0, .ref 0), (1, .ref 19), (2, .ref 20)]) (st' := [.int (nI (1)), .int (nI (p)), .int (nI ((q - 1) + 1)), .ref 20]) (w2 := modW 0 S ((X.rf, wo, ta, ow, 0, X.sh, X.lt, X.ty, X.pl, X.nu, X.od, X.tt, oo, (ordN S S.ca).length, X.wn, X.pd, X.li, X.rr, X.rn, X.dr) : ModN) none ++ row20 19 (up fb ((q - 1) + 1) (m ||| (1 <<< b))) ++ row20 20 (up fp (q - 1) (p + 1))) rfl ?_
            refine ev_iadd_n dX7_looked_147 ?_
            refine ev_iast_n (f := up fp (q - 1) (p + 1)) dX7_looked_148 rfl (by omega) (by decide) ?_
            refine ev_eq (w' := modW 0 S ((X.rf, wo, ta, ow, 0, X.sh, X.lt, X.ty, X.pl, X.nu, X.od, X.tt, oo, (ordN S S.ca).length, X.wn, X.pd, X.li, X.rr, X.rn, X.dr) : ModN) none ++ row20 19 (up fb ((q - 1) + 1) (m ||| (1 <<< b))) ++ row20 20 (up (up fp (q - 1) (p + 1)) ((q - 1) + 1) (p + 1))) rfl rfl rfl ?_
            refine ev_iinc_n (x := (q - 1) + 1) (v := 1) dX7_looked_149 rfl (by decide) ?_
            refine ev_eq (lv' := [(3, .int (nI (((q - 1) + 1) + 1))), (5, .int (nI (k + 1))), (7, .int (nI (p))), (6, .int (nI (m))), (4, .int (nI (mo))), (0, .ref 0), (1, .ref 19), (2, .ref 20)]) rfl rfl rfl ?_
            refine ev_b bX7_looked_152_26 (lv' := [(3, .int (nI (((q - 1) + 1) + 1))), (5, .int (nI (k + 1))), (7, .int (nI (p))), (6, .int (nI (m))), (4, .int (nI (mo))), (0, .ref 0), (1, .ref 19), (2, .ref 20)]) (st' := []) (w2 := modW 0 S ((X.rf, wo, ta, ow, 0, X.sh, X.lt, X.ty, X.pl, X.nu, X.od, X.tt, oo, (ordN S S.ca).length, X.wn, X.pd, X.li, X.rr, X.rn, X.dr) : ModN) none ++ row20 19 (up fb ((q - 1) + 1) (m ||| (1 <<< b))) ++ row20 20 (up (up fp (q - 1) (p + 1)) ((q - 1) + 1) (p + 1))) rfl ?_
            refine ev_pick (lv' := [(3, .int (nI (((q - 1) + 1) + 1))), (4, .int (nI (mo))), (5, .int (nI (k + 1))), (0, .ref 0), (1, .ref 19), (2, .ref 20)]) rfl ?_
            rw [show nI (k + 1) = nI ((k + 1)) from congrArg nI (by omega)]
            exact ih26 (k + 1) (by omega) _ _ _ _ _ hnext
          · skip
            have hnext := And.intro hI2 (And.intro ((stk_off (k := k) (s := s2) h59 eb h121).symm.trans hinv26.2.1) hinv26.2.2)
            refine ev_b bX7_looked_124_26 (lv' := [(3, .int (nI ((q - 1) + 1))), (5, .int (nI (k + 1))), (7, .int (nI (p))), (6, .int (nI (m))), (4, .int (nI (mo))), (0, .ref 0), (1, .ref 19), (2, .ref 20)]) (st' := []) (w2 := modW 0 S ((X.rf, wo, ta, ow, 0, X.sh, X.lt, X.ty, X.pl, X.nu, X.od, X.tt, oo, (ordN S S.ca).length, X.wn, X.pd, X.li, X.rr, X.rn, X.dr) : ModN) none ++ row20 19 fb ++ row20 20 (up fp (q - 1) (p + 1))) rfl ?_
            refine ev_pick (lv' := [(3, .int (nI ((q - 1) + 1))), (4, .int (nI (mo))), (5, .int (nI (k + 1))), (0, .ref 0), (1, .ref 19), (2, .ref 20)]) rfl ?_
            rw [show nI (k + 1) = nI ((k + 1)) from congrArg nI (by omega)]
            exact ih26 (k + 1) (by omega) _ _ _ _ _ hnext
        · skip
          have hnext := And.intro hI (And.intro ((stk_leaf (k := k) (s := s2) h59 h71).symm.trans hinv26.2.1) (leaf_le hS (m := m) hinv26.2.2))
          refine ev_b bX7_looked_74_82 (lv' := [(5, .int (nI (k + 1))), (7, .int (nI (p))), (6, .int (nI (m))), (3, .int (nI (q - 1))), (4, .int (nI (mo))), (0, .ref 0), (1, .ref 19), (2, .ref 20)]) (st' := [.int (nI (m)), .ref 8, .int (nI (mo))]) (w2 := modW 0 S ((X.rf, wo, ta, ow, 0, X.sh, X.lt, X.ty, X.pl, X.nu, X.od, X.tt, oo, (ordN S S.ca).length, X.wn, X.pd, X.li, X.rr, X.rn, X.dr) : ModN) none ++ row20 19 fb ++ row20 20 fp) rfl ?_
          refine ev_iald_z (f := wo) dX7_looked_82 rfl (by omega) (by decide) ?_
          refine ev_top2 (y := zI (((mo : Nat) : Int))) (zI_nat _).symm ?_
          refine ev_max dX7_looked_83 tw_1187 tw_655 tw_15 tw_656 (by decide) (Nat.le_of_ble_eq_true rfl) (Nat.le_refl _) (Nat.le_refl _) ?_
          refine ev_top (z_max (by constructor <;> omega) (by rw [hwm]; constructor <;> omega)) ?_
          refine ev_top (y := (nI ((if allS S m then max mo (worthN S m) else mo)))) (by rw [show max (((mo : Nat) : Int)) (wo m) = (((if allS S m then max mo (worthN S m) else mo) : Nat) : Int) from by rw [hwm]; exact leaf_max hdm]; exact zI_nat _) ?_
          refine ev_b bX7_looked_86_26 (lv' := [(4, .int (nI ((if allS S m then max mo (worthN S m) else mo)))), (5, .int (nI (k + 1))), (7, .int (nI (p))), (6, .int (nI (m))), (3, .int (nI (q - 1))), (0, .ref 0), (1, .ref 19), (2, .ref 20)]) (st' := []) (w2 := modW 0 S ((X.rf, wo, ta, ow, 0, X.sh, X.lt, X.ty, X.pl, X.nu, X.od, X.tt, oo, (ordN S S.ca).length, X.wn, X.pd, X.li, X.rr, X.rn, X.dr) : ModN) none ++ row20 19 fb ++ row20 20 fp) rfl ?_
          refine ev_pick (lv' := [(3, .int (nI (q - 1))), (4, .int (nI ((if allS S m then max mo (worthN S m) else mo)))), (5, .int (nI (k + 1))), (0, .ref 0), (1, .ref 19), (2, .ref 20)]) rfl ?_
          rw [show nI (k + 1) = nI ((k + 1)) from congrArg nI (by omega)]
          exact ih26 (k + 1) (by omega) _ _ _ _ _ hnext
      · skip
        have hnext := And.intro hI (And.intro ((stk_low (k := k) (s := s2) (Nat.not_le.mp h59)).symm.trans hinv26.2.1) hinv26.2.2)
        refine ev_b bX7_looked_62_26 (lv' := [(5, .int (nI (k + 1))), (7, .int (nI (p))), (6, .int (nI (m))), (3, .int (nI (q - 1))), (4, .int (nI (mo))), (0, .ref 0), (1, .ref 19), (2, .ref 20)]) (st' := []) (w2 := modW 0 S ((X.rf, wo, ta, ow, 0, X.sh, X.lt, X.ty, X.pl, X.nu, X.od, X.tt, oo, (ordN S S.ca).length, X.wn, X.pd, X.li, X.rr, X.rn, X.dr) : ModN) none ++ row20 19 fb ++ row20 20 fp) rfl ?_
        refine ev_pick (lv' := [(3, .int (nI (q - 1))), (4, .int (nI (mo))), (5, .int (nI (k + 1))), (0, .ref 0), (1, .ref 19), (2, .ref 20)]) rfl ?_
        rw [show nI (k + 1) = nI ((k + 1)) from congrArg nI (by omega)]
        exact ih26 (k + 1) (by omega) _ _ _ _ _ hnext
  refine ev_pick (lv' := [(3, .int (nI (1))), (4, .int (nI (0))), (5, .int (nI (0))), (0, .ref 0), (1, .ref 19), (2, .ref 20)]) rfl ?_
  exact L26 ((lookL S (ordN S S.ca) 0 (0, 0)).1) 0 (by omega) _ _ [(0, 0)] 1 0 ⟨stk_start, rfl, by omega⟩
set_option maxHeartbeats 4000000 in
set_option maxRecDepth 100000 in
theorem m_X7_looked_s {l : Launch} {E : XE} (S : SaleN) (X : ModN) (kf : Nat → Nat) (hS : SaleOK S) (hM : MOK S X) : MetE l E mX7_looked (4) 2 40 [.ref 0] (modW 0 S X (some kf)) (fun r w' => r = some (.int (nI (lookL S (ordN S S.ca) 0 (0, 0)).1)) ∧ ∃ (wo ta : Nat → Int) (ow oo : Nat → Nat), w' = modW 0 S ((X.rf, wo, ta, ow, 0, X.sh, X.lt, X.ty, X.pl, X.nu, X.od, X.tt, oo, (ordN S S.ca).length, X.wn, X.pd, X.li, X.rr, X.rn, X.dr) : ModN) (some kf) ∧ TabF S wo ta) := by
  refine MetE.of (by decide +kernel) (Nat.le_of_ble_eq_true rfl) ?_
  have hca := hS.1
  have hpw := pow_ca hS
  have hlo := ordN_len S S.ca
  have hshl := shl_le hS
  refine ev_eq (lv' := [(0, .ref 0)]) (st' := []) (w' := modW 0 S X (some kf)) rfl rfl rfl ?_
  refine ev_b bX7_looked_0_1 (lv' := [(0, .ref 0)]) (st' := [.ref 0]) (w2 := modW 0 S X (some kf)) rfl ?_
  refine ev_callM (Yc := mX7_table) (st := []) dX7_looked_1 tw_1112 kX7_table (m_X7_table_g S S.kd S.fg X (some kf) hS (kf_self hM.1) hM.2) rfl rfl rfl rfl (by decide) (Nat.le_of_ble_eq_true rfl) (Nat.le_of_ble_eq_true rfl) (Nat.le_of_ble_eq_true rfl) (fun r w' h => by obtain ⟨-, wo, ta, ow, rfl, -⟩ := h; exact mod_eq) ?_
  rintro _ _ ⟨rfl, wo, ta, ow, rfl, hT⟩
  refine ev_eq (lv' := [(0, .ref 0)]) (st' := []) (w' := modW 0 S ((X.rf, wo, ta, ow, 0, X.sh, X.lt, X.ty, X.pl, X.nu, X.od, X.tt, X.oo, X.on, X.wn, X.pd, X.li, X.rr, X.rn, X.dr) : ModN) (some kf)) rfl rfl rfl ?_
  refine ev_b bX7_looked_4_5 (lv' := [(0, .ref 0)]) (st' := [.ref 0]) (w2 := modW 0 S ((X.rf, wo, ta, ow, 0, X.sh, X.lt, X.ty, X.pl, X.nu, X.od, X.tt, X.oo, X.on, X.wn, X.pd, X.li, X.rr, X.rn, X.dr) : ModN) (some kf)) rfl ?_
  refine ev_callM (Yc := mX7_findOrder) (st := []) dX7_looked_5 tw_1147 kX7_findOrder (m_X7_findOrder S ((X.rf, wo, ta, ow, 0, X.sh, X.lt, X.ty, X.pl, X.nu, X.od, X.tt, X.oo, X.on, X.wn, X.pd, X.li, X.rr, X.rn, X.dr) : ModN) (some kf) hS) rfl rfl rfl rfl (by decide) (Nat.le_of_ble_eq_true rfl) (Nat.le_of_ble_eq_true rfl) (Nat.le_of_ble_eq_true rfl) (fun r w' h => by obtain ⟨-, oo, rfl, -⟩ := h; exact mod_eq) ?_
  rintro _ _ ⟨rfl, oo, rfl, hO⟩
  refine ev_eq (lv' := [(0, .ref 0)]) (st' := []) (w' := modW 0 S ((X.rf, wo, ta, ow, 0, X.sh, X.lt, X.ty, X.pl, X.nu, X.od, X.tt, oo, (ordN S S.ca).length, X.wn, X.pd, X.li, X.rr, X.rn, X.dr) : ModN) (some kf)) rfl rfl rfl ?_
  refine ev_b bX7_looked_8_10 (lv' := [(0, .ref 0)]) (st' := [.int (nI (20))]) (w2 := modW 0 S ((X.rf, wo, ta, ow, 0, X.sh, X.lt, X.ty, X.pl, X.nu, X.od, X.tt, oo, (ordN S S.ca).length, X.wn, X.pd, X.li, X.rr, X.rn, X.dr) : ModN) (some kf)) rfl ?_
  refine ev_newi dX7_looked_10 tw_69 (Nat.le_of_ble_eq_true rfl) rfl rfl rfl (Nat.le_of_ble_eq_true rfl) (Nat.le_of_ble_eq_true rfl) (Nat.le_of_ble_eq_true rfl) ?_
  refine ev_eq (st' := [.ref 20]) (w' := modW 0 S ((X.rf, wo, ta, ow, 0, X.sh, X.lt, X.ty, X.pl, X.nu, X.od, X.tt, oo, (ordN S S.ca).length, X.wn, X.pd, X.li, X.rr, X.rn, X.dr) : ModN) (some kf) ++ row20 20 ((fun _ => 0))) rfl rfl rfl ?_
  refine ev_b bX7_looked_12_15 (lv' := [(1, .ref 20), (0, .ref 0)]) (st' := [.int (nI (20))]) (w2 := modW 0 S ((X.rf, wo, ta, ow, 0, X.sh, X.lt, X.ty, X.pl, X.nu, X.od, X.tt, oo, (ordN S S.ca).length, X.wn, X.pd, X.li, X.rr, X.rn, X.dr) : ModN) (some kf) ++ row20 20 ((fun _ => 0))) rfl ?_
  refine ev_newi dX7_looked_15 tw_69 (Nat.le_of_ble_eq_true rfl) rfl rfl rfl (Nat.le_of_ble_eq_true rfl) (Nat.le_of_ble_eq_true rfl) (Nat.le_of_ble_eq_true rfl) ?_
  refine ev_eq (st' := [.ref 21]) (w' := modW 0 S ((X.rf, wo, ta, ow, 0, X.sh, X.lt, X.ty, X.pl, X.nu, X.od, X.tt, oo, (ordN S S.ca).length, X.wn, X.pd, X.li, X.rr, X.rn, X.dr) : ModN) (some kf) ++ row20 20 ((fun _ => 0)) ++ row20 21 ((fun _ => 0))) rfl rfl rfl ?_
  refine ev_b bX7_looked_17_26 (lv' := [(5, .int (nI (0))), (4, .int (nI (0))), (3, .int (nI (1))), (2, .ref 21), (1, .ref 20), (0, .ref 0)]) (st' := []) (w2 := modW 0 S ((X.rf, wo, ta, ow, 0, X.sh, X.lt, X.ty, X.pl, X.nu, X.od, X.tt, oo, (ordN S S.ca).length, X.wn, X.pd, X.li, X.rr, X.rn, X.dr) : ModN) (some kf) ++ row20 20 ((fun _ => 0)) ++ row20 21 ((fun _ => 0))) rfl ?_
  have L26 : ∀ (j_ k : Nat), k + j_ = (lookL S (ordN S S.ca) 0 (0, 0)).1 → ∀ (fb fp : Nat → Nat) (s : List (Nat × Nat)) (q mo : Nat), (StkI S (ordN S S.ca) fb fp q s ∧ stkF S (ordN S S.ca) s (k, 60 * mo) = (lookL S (ordN S S.ca) 0 (0, 0)) ∧ mo ≤ 2000) → Ev l E mX7_looked (4) 2 40 (modW 0 S X (some kf)) (fun r w' => r = some (.int (nI (lookL S (ordN S S.ca) 0 (0, 0)).1)) ∧ ∃ (wo ta : Nat → Int) (ow oo : Nat → Nat), w' = modW 0 S ((X.rf, wo, ta, ow, 0, X.sh, X.lt, X.ty, X.pl, X.nu, X.od, X.tt, oo, (ordN S S.ca).length, X.wn, X.pd, X.li, X.rr, X.rn, X.dr) : ModN) (some kf) ∧ TabF S wo ta) 2 40 26 [(3, .int (nI (q))), (4, .int (nI (mo))), (5, .int (nI (k))), (0, .ref 0), (1, .ref 20), (2, .ref 21)] [] (modW 0 S ((X.rf, wo, ta, ow, 0, X.sh, X.lt, X.ty, X.pl, X.nu, X.od, X.tt, oo, (ordN S S.ca).length, X.wn, X.pd, X.li, X.rr, X.rn, X.dr) : ModN) (some kf) ++ row20 20 fb ++ row20 21 fp) := by
    intro j_
    induction j_ with
    | zero =>
      intro k hk26 fb fp s q mo hinv26
      replace hk26 : k = (lookL S (ordN S S.ca) 0 (0, 0)).1 := hk26
      have hge := stk_ge (S := S) (L := (ordN S S.ca)) s (k, 60 * mo)
      rw [hinv26.2.1] at hge
      have hge : k + s.length ≤ (lookL S (ordN S S.ca) 0 (0, 0)).1 := hge
      have hsq := hinv26.1.1
      refine ev_b bX7_looked_26_27 (lv' := [(3, .int (nI (q))), (4, .int (nI (mo))), (5, .int (nI (k))), (0, .ref 0), (1, .ref 20), (2, .ref 21)]) (st' := [.int (nI (q))]) (w2 := modW 0 S ((X.rf, wo, ta, ow, 0, X.sh, X.lt, X.ty, X.pl, X.nu, X.od, X.tt, oo, (ordN S S.ca).length, X.wn, X.pd, X.li, X.rr, X.rn, X.dr) : ModN) (some kf) ++ row20 20 fb ++ row20 21 fp) rfl ?_
      refine ev_if_le_n (tgt := 155) (by omega) dX7_looked_27 (by decide) (fun h27 => ?_) (fun h27 => (by exfalso; omega))
      refine ev_drop ?_
      refine ev_drop ?_
      refine ev_b bX7_looked_155_157 (lv' := [(3, .int (nI (q))), (4, .int (nI (mo))), (5, .int (nI (k))), (0, .ref 0), (1, .ref 20), (2, .ref 21)]) (st' := [.int (nI (k))]) (w2 := modW 0 S ((X.rf, wo, ta, ow, 0, X.sh, X.lt, X.ty, X.pl, X.nu, X.od, X.tt, oo, (ordN S S.ca).length, X.wn, X.pd, X.li, X.rr, X.rn, X.dr) : ModN) (some kf)) rfl ?_
      exact ev_iret dX7_looked_157 rfl mod_le (Nat.le_of_ble_eq_true rfl) (Nat.le_of_ble_eq_true rfl) ⟨by rw [hk26], wo, ta, ow, oo, rfl, hT⟩
    | succ j_ ih26 =>
      intro k hk26 fb fp s q mo hinv26
      have hlt26 : k < (lookL S (ordN S S.ca) 0 (0, 0)).1 := by omega
      have hge := stk_ge (S := S) (L := (ordN S S.ca)) s (k, 60 * mo)
      rw [hinv26.2.1] at hge
      have hge : k + s.length ≤ (lookL S (ordN S S.ca) 0 (0, 0)).1 := hge
      have hsq := hinv26.1.1
      have hq1 : 0 < q := Nat.pos_of_ne_zero (fun z => by
        have h9 := hinv26.2.1
        rw [List.eq_nil_of_length_eq_zero (hsq.trans z)] at h9
        have h8 : k = (lookL S (ordN S S.ca) 0 (0, 0)).1 := congrArg Prod.fst h9
        omega)
      obtain ⟨p, m, s2, es, hfb, hfp, hqp, hp, hm2, hdm, hI⟩ := stk_pop hinv26.1 hq1
      subst es
      have hm1 : m < 1 <<< S.ca := by rw [Nat.one_shiftLeft]; exact hm2
      have hta : ta m = ((itTo S.st m S.ca : Nat) : Int) := ((hT m hm1).2).trans (if_pos hdm)
      have hwm := (hT m hm1).1
      have hwb := wt_bnd hS m
      refine ev_b bX7_looked_26_27 (lv' := [(3, .int (nI (q))), (4, .int (nI (mo))), (5, .int (nI (k))), (0, .ref 0), (1, .ref 20), (2, .ref 21)]) (st' := [.int (nI (q))]) (w2 := modW 0 S ((X.rf, wo, ta, ow, 0, X.sh, X.lt, X.ty, X.pl, X.nu, X.od, X.tt, oo, (ordN S S.ca).length, X.wn, X.pd, X.li, X.rr, X.rn, X.dr) : ModN) (some kf) ++ row20 20 fb ++ row20 21 fp) rfl ?_
      refine ev_if_le_n (tgt := 155) (by omega) dX7_looked_27 (by decide) (fun h27 => (by exfalso; omega)) (fun h27 => ?_)
      refine ev_idec_n (x := q) dX7_looked_30 rfl (by decide) (by omega) ?_
      refine ev_eq (lv' := [(3, .int (nI (q - 1))), (4, .int (nI (mo))), (5, .int (nI (k))), (0, .ref 0), (1, .ref 20), (2, .ref 21)]) rfl rfl rfl ?_
      refine ev_b bX7_looked_33_35 (lv' := [(3, .int (nI (q - 1))), (4, .int (nI (mo))), (5, .int (nI (k))), (0, .ref 0), (1, .ref 20), (2, .ref 21)]) (st' := [.int (nI (q - 1)), .ref 20]) (w2 := modW 0 S ((X.rf, wo, ta, ow, 0, X.sh, X.lt, X.ty, X.pl, X.nu, X.od, X.tt, oo, (ordN S S.ca).length, X.wn, X.pd, X.li, X.rr, X.rn, X.dr) : ModN) (some kf) ++ row20 20 fb ++ row20 21 fp) rfl ?_
      refine ev_iald_n (f := fb) dX7_looked_35 rfl (by omega) (by decide) ?_
      refine ev_top (y := (nI (m))) (congrArg nI (show fb (q - 1) = m from by exact hfb)) ?_
      refine ev_b bX7_looked_36_40 (lv' := [(6, .int (nI (m))), (3, .int (nI (q - 1))), (4, .int (nI (mo))), (5, .int (nI (k))), (0, .ref 0), (1, .ref 20), (2, .ref 21)]) (st' := [.int (nI (q - 1)), .ref 21]) (w2 := modW 0 S ((X.rf, wo, ta, ow, 0, X.sh, X.lt, X.ty, X.pl, X.nu, X.od, X.tt, oo, (ordN S S.ca).length, X.wn, X.pd, X.li, X.rr, X.rn, X.dr) : ModN) (some kf) ++ row20 20 fb ++ row20 21 fp) rfl ?_
      refine ev_iald_n (f := fp) dX7_looked_40 rfl (by omega) (by decide) ?_
      refine ev_top (y := (nI (p))) (congrArg nI (show fp (q - 1) = p from by exact hfp)) ?_
      refine ev_b bX7_looked_41_43 (lv' := [(7, .int (nI (p))), (6, .int (nI (m))), (3, .int (nI (q - 1))), (4, .int (nI (mo))), (5, .int (nI (k))), (0, .ref 0), (1, .ref 20), (2, .ref 21)]) (st' := []) (w2 := modW 0 S ((X.rf, wo, ta, ow, 0, X.sh, X.lt, X.ty, X.pl, X.nu, X.od, X.tt, oo, (ordN S S.ca).length, X.wn, X.pd, X.li, X.rr, X.rn, X.dr) : ModN) (some kf) ++ row20 20 fb ++ row20 21 fp) rfl ?_
      refine ev_iinc_n (x := k) (v := 1) dX7_looked_43 rfl (by decide) ?_
      refine ev_eq (lv' := [(5, .int (nI (k + 1))), (7, .int (nI (p))), (6, .int (nI (m))), (3, .int (nI (q - 1))), (4, .int (nI (mo))), (0, .ref 0), (1, .ref 20), (2, .ref 21)]) rfl rfl rfl ?_
      refine ev_b bX7_looked_46_51 (lv' := [(5, .int (nI (k + 1))), (7, .int (nI (p))), (6, .int (nI (m))), (3, .int (nI (q - 1))), (4, .int (nI (mo))), (0, .ref 0), (1, .ref 20), (2, .ref 21)]) (st' := [.int (nI (p)), .int (nI (m)), .ref 0]) (w2 := modW 0 S ((X.rf, wo, ta, ow, 0, X.sh, X.lt, X.ty, X.pl, X.nu, X.od, X.tt, oo, (ordN S S.ca).length, X.wn, X.pd, X.li, X.rr, X.rn, X.dr) : ModN) (some kf) ++ row20 20 fb ++ row20 21 fp) rfl ?_
      refine ev_callP (Yc := mX7_boundOf) (st := []) (A := modW 0 S ((X.rf, wo, ta, ow, 0, X.sh, X.lt, X.ty, X.pl, X.nu, X.od, X.tt, oo, (ordN S S.ca).length, X.wn, X.pd, X.li, X.rr, X.rn, X.dr) : ModN) (some kf)) (R := row20 20 fb ++ row20 21 fp) dX7_looked_51 tw_1183 kX7_boundOf (m_X7_boundOf S ((X.rf, wo, ta, ow, 0, X.sh, X.lt, X.ty, X.pl, X.nu, X.od, X.tt, oo, (ordN S S.ca).length, X.wn, X.pd, X.li, X.rr, X.rn, X.dr) : ModN) (some kf) (ordN S S.ca) m p hS hta (by omega) hO (ordN_mem S S.ca) rfl (by omega) hp) rfl rfl rfl mod_xek rfl rfl (by decide) (Nat.le_of_ble_eq_true rfl) (Nat.le_of_ble_eq_true rfl) (Nat.le_of_ble_eq_true rfl) (fun r w' h => by obtain ⟨rfl, rfl⟩ := h; exact ⟨mod_eq, mod_xek, rfl⟩) ?_
      rintro _ _ ⟨rfl, rfl⟩
      refine ev_eq (lv' := [(5, .int (nI (k + 1))), (7, .int (nI (p))), (6, .int (nI (m))), (3, .int (nI (q - 1))), (4, .int (nI (mo))), (0, .ref 0), (1, .ref 20), (2, .ref 21)]) (st' := [.int (nI (bdTo S ((ordN S S.ca).drop p) m 6))]) (w' := modW 0 S ((X.rf, wo, ta, ow, 0, X.sh, X.lt, X.ty, X.pl, X.nu, X.od, X.tt, oo, (ordN S S.ca).length, X.wn, X.pd, X.li, X.rr, X.rn, X.dr) : ModN) (some kf) ++ row20 20 fb ++ row20 21 fp) rfl rfl rfl ?_
      have hbd := bdTo_le hS (L := (ordN S S.ca).drop p) (fun x hx => ordN_mem S S.ca x (List.mem_of_mem_drop hx)) (taken := m) 6 (Nat.le_refl _)
      refine ev_b bX7_looked_54_58 (lv' := [(5, .int (nI (k + 1))), (7, .int (nI (p))), (6, .int (nI (m))), (3, .int (nI (q - 1))), (4, .int (nI (mo))), (0, .ref 0), (1, .ref 20), (2, .ref 21)]) (st' := [.int (nI (mo)), .int (nI (60)), .int (nI (bdTo S ((ordN S S.ca).drop p) m 6))]) (w2 := modW 0 S ((X.rf, wo, ta, ow, 0, X.sh, X.lt, X.ty, X.pl, X.nu, X.od, X.tt, oo, (ordN S S.ca).length, X.wn, X.pd, X.li, X.rr, X.rn, X.dr) : ModN) (some kf) ++ row20 20 fb ++ row20 21 fp) rfl ?_
      refine ev_imul_n dX7_looked_58 ?_
      refine ev_icmp_ge_n (tgt := 65) (by omega) (by omega) dX7_looked_59 (by decide) (fun h59 => ?_) (fun h59 => ?_)
      · skip
        replace h59 := Nat.not_lt.mpr h59
        refine ev_b bX7_looked_65_71 (lv' := [(5, .int (nI (k + 1))), (7, .int (nI (p))), (6, .int (nI (m))), (3, .int (nI (q - 1))), (4, .int (nI (mo))), (0, .ref 0), (1, .ref 20), (2, .ref 21)]) (st' := [.int (nI ((ordN S S.ca).length)), .int (nI (p))]) (w2 := modW 0 S ((X.rf, wo, ta, ow, 0, X.sh, X.lt, X.ty, X.pl, X.nu, X.od, X.tt, oo, (ordN S S.ca).length, X.wn, X.pd, X.li, X.rr, X.rn, X.dr) : ModN) (some kf) ++ row20 20 fb ++ row20 21 fp) rfl ?_
        refine ev_icmp_ne_n (tgt := 91) (by omega) (by omega) dX7_looked_71 (by decide) (fun h71 => ?_) (fun h71 => ?_)
        · skip
          obtain ⟨b, eb, eo, ebc⟩ := ord_lt hO (ordN_mem S S.ca) (show p < (ordN S S.ca).length by omega)
          have hI2 : StkI S (ordN S S.ca) fb (up fp (q - 1) (p + 1)) (q - 1 + 1) ((p + 1, m) :: s2) := stk_push hI (fun _ _ => rfl) (fun i hi => up_ne (by omega)) hfb (up_at _ _ _) (by omega) (by omega) hm2 hdm
          refine ev_b bX7_looked_91_96 (lv' := [(5, .int (nI (k + 1))), (7, .int (nI (p))), (6, .int (nI (m))), (3, .int (nI (q - 1))), (4, .int (nI (mo))), (0, .ref 0), (1, .ref 20), (2, .ref 21)]) (st' := [.int (nI (1)), .int (nI (p)), .int (nI (q - 1)), .ref 21]) (w2 := modW 0 S ((X.rf, wo, ta, ow, 0, X.sh, X.lt, X.ty, X.pl, X.nu, X.od, X.tt, oo, (ordN S S.ca).length, X.wn, X.pd, X.li, X.rr, X.rn, X.dr) : ModN) (some kf) ++ row20 20 fb ++ row20 21 fp) rfl ?_
          refine ev_iadd_n dX7_looked_96 ?_
          refine ev_iast_n (f := fp) dX7_looked_97 rfl (by omega) (by decide) ?_
          refine ev_eq (w' := modW 0 S ((X.rf, wo, ta, ow, 0, X.sh, X.lt, X.ty, X.pl, X.nu, X.od, X.tt, oo, (ordN S S.ca).length, X.wn, X.pd, X.li, X.rr, X.rn, X.dr) : ModN) (some kf) ++ row20 20 fb ++ row20 21 (up fp (q - 1) (p + 1))) rfl rfl rfl ?_
          refine ev_iinc_n (x := q - 1) (v := 1) dX7_looked_98 rfl (by decide) ?_
          refine ev_eq (lv' := [(3, .int (nI ((q - 1) + 1))), (5, .int (nI (k + 1))), (7, .int (nI (p))), (6, .int (nI (m))), (4, .int (nI (mo))), (0, .ref 0), (1, .ref 20), (2, .ref 21)]) rfl rfl rfl ?_
          refine ev_b bX7_looked_101_107 (lv' := [(3, .int (nI ((q - 1) + 1))), (5, .int (nI (k + 1))), (7, .int (nI (p))), (6, .int (nI (m))), (4, .int (nI (mo))), (0, .ref 0), (1, .ref 20), (2, .ref 21)]) (st' := [.int (nI (m)), .ref 9]) (w2 := modW 0 S ((X.rf, wo, ta, ow, 0, X.sh, X.lt, X.ty, X.pl, X.nu, X.od, X.tt, oo, (ordN S S.ca).length, X.wn, X.pd, X.li, X.rr, X.rn, X.dr) : ModN) (some kf) ++ row20 20 fb ++ row20 21 (up fp (q - 1) (p + 1))) rfl ?_
          refine ev_iald_z (f := ta) dX7_looked_107 rfl (by omega) (by decide) ?_
          refine ev_top (y := (nI (itTo S.st m S.ca))) (by rw [show ta m = ((itTo S.st m S.ca : Nat) : Int) from by exact hta]; exact zI_nat _) ?_
          refine ev_b bX7_looked_108_118 (lv' := [(3, .int (nI ((q - 1) + 1))), (5, .int (nI (k + 1))), (7, .int (nI (p))), (6, .int (nI (m))), (4, .int (nI (mo))), (0, .ref 0), (1, .ref 20), (2, .ref 21)]) (st' := [.int (nI (p)), .ref 15, .ref 5, .int (nI (itTo S.st m S.ca))]) (w2 := modW 0 S ((X.rf, wo, ta, ow, 0, X.sh, X.lt, X.ty, X.pl, X.nu, X.od, X.tt, oo, (ordN S S.ca).length, X.wn, X.pd, X.li, X.rr, X.rn, X.dr) : ModN) (some kf) ++ row20 20 fb ++ row20 21 (up fp (q - 1) (p + 1))) rfl ?_
          refine ev_iald_n (f := oo) dX7_looked_118 rfl (by omega) (by decide) ?_
          refine ev_top (y := (nI (b))) (congrArg nI (show oo p = b from by exact eo)) ?_
          refine ev_iald_n (f := S.st) dX7_looked_119 rfl (by omega) (by decide) ?_
          refine ev_iand_n dX7_looked_120 ?_
          refine ev_if_eq_n (tgt := 127) (by exact Nat.lt_of_le_of_lt Nat.and_le_right (by have := (hS.2.2.1 b ebc).2.2.1; omega)) dX7_looked_121 (by decide) (fun h121 => ?_) (fun h121 => ?_)
          · skip
            have hI3 : StkI S (ordN S S.ca) (up fb (q - 1 + 1) (m ||| 1 <<< b)) (up (up fp (q - 1) (p + 1)) (q - 1 + 1) (p + 1)) (q - 1 + 1 + 1) ((p + 1, m ||| 1 <<< b) :: (p + 1, m) :: s2) := stk_push hI2 (fun i hi => up_ne (by omega)) (fun i hi => up_ne (by omega)) (up_at _ _ _) (up_at _ _ _) (by omega) (by omega) (or_lt hm2 (shl_lt ebc)) (dsj_join hdm ebc h121)
            have hnext := And.intro hI3 (And.intro ((stk_on (k := k) (s := s2) h59 eb h121).symm.trans hinv26.2.1) hinv26.2.2)
            refine ev_b bX7_looked_127_138 (lv' := [(3, .int (nI ((q - 1) + 1))), (5, .int (nI (k + 1))), (7, .int (nI (p))), (6, .int (nI (m))), (4, .int (nI (mo))), (0, .ref 0), (1, .ref 20), (2, .ref 21)]) (st' := [.int (nI (p)), .ref 15, .int (nI (1)), .int (nI (m)), .int (nI ((q - 1) + 1)), .ref 20]) (w2 := modW 0 S ((X.rf, wo, ta, ow, 0, X.sh, X.lt, X.ty, X.pl, X.nu, X.od, X.tt, oo, (ordN S S.ca).length, X.wn, X.pd, X.li, X.rr, X.rn, X.dr) : ModN) (some kf) ++ row20 20 fb ++ row20 21 (up fp (q - 1) (p + 1))) rfl ?_
            refine ev_iald_n (f := oo) dX7_looked_138 rfl (by omega) (by decide) ?_
            refine ev_top (y := (nI (b))) (congrArg nI (show oo p = b from by exact eo)) ?_
            refine ev_ishl_n (by omega) dX7_looked_139 ?_
            refine ev_ior_n dX7_looked_140 ?_
            refine ev_iast_n (f := fb) dX7_looked_141 rfl (by omega) (by decide) ?_
            refine ev_eq (w' := modW 0 S ((X.rf, wo, ta, ow, 0, X.sh, X.lt, X.ty, X.pl, X.nu, X.od, X.tt, oo, (ordN S S.ca).length, X.wn, X.pd, X.li, X.rr, X.rn, X.dr) : ModN) (some kf) ++ row20 20 (up fb ((q - 1) + 1) (m ||| (1 <<< b))) ++ row20 21 (up fp (q - 1) (p + 1))) rfl rfl rfl ?_
            refine ev_b bX7_looked_142_147 (lv' := [(3, .int (nI ((q - 1) + 1))), (5, .int (nI (k + 1))), (7, .int (nI (p))), (6, .int (nI (m))), (4, .int (nI (mo))), (0, .ref 0), (1, .ref 20), (2, .ref 21)]) (st' := [.int (nI (1)), .int (nI (p)), .int (nI ((q - 1) + 1)), .ref 21]) (w2 := modW 0 S ((X.rf, wo, ta, ow, 0, X.sh, X.lt, X.ty, X.pl, X.nu, X.od, X.tt, oo, (ordN S S.ca).length, X.wn, X.pd, X.li, X.rr, X.rn, X.dr) : ModN) (some kf) ++ row20 20 (up fb ((q - 1) + 1) (m ||| (1 <<< b))) ++ row20 21 (up fp (q - 1) (p + 1))) rfl ?_
            refine ev_iadd_n dX7_looked_147 ?_
            refine ev_iast_n (f := up fp (q - 1) (p + 1)) dX7_looked_148 rfl (by omega) (by decide) ?_
            refine ev_eq (w' := modW 0 S ((X.rf, wo, ta, ow, 0, X.sh, X.lt, X.ty, X.pl, X.nu, X.od, X.tt, oo, (ordN S S.ca).length, X.wn, X.pd, X.li, X.rr, X.rn, X.dr) : ModN) (some kf) ++ row20 20 (up fb ((q - 1) + 1) (m ||| (1 <<< b))) ++ row20 21 (up (up fp (q - 1) (p + 1)) ((q - 1) + 1) (p + 1))) rfl rfl rfl ?_
            refine ev_iinc_n (x := (q - 1) + 1) (v := 1) dX7_looked_149 rfl (by decide) ?_
            refine ev_eq (lv' := [(3, .int (nI (((q - 1) + 1) + 1))), (5, .int (nI (k + 1))), (7, .int (nI (p))), (6, .int (nI (m))), (4, .int (nI (mo))), (0, .ref 0), (1, .ref 20), (2, .ref 21)]) rfl rfl rfl ?_
            refine ev_b bX7_looked_152_26 (lv' := [(3, .int (nI (((q - 1) + 1) + 1))), (5, .int (nI (k + 1))), (7, .int (nI (p))), (6, .int (nI (m))), (4, .int (nI (mo))), (0, .ref 0), (1, .ref 20), (2, .ref 21)]) (st' := []) (w2 := modW 0 S ((X.rf, wo, ta, ow, 0, X.sh, X.lt, X.ty, X.pl, X.nu, X.od, X.tt, oo, (ordN S S.ca).length, X.wn, X.pd, X.li, X.rr, X.rn, X.dr) : ModN) (some kf) ++ row20 20 (up fb ((q - 1) + 1) (m ||| (1 <<< b))) ++ row20 21 (up (up fp (q - 1) (p + 1)) ((q - 1) + 1) (p + 1))) rfl ?_
            refine ev_pick (lv' := [(3, .int (nI (((q - 1) + 1) + 1))), (4, .int (nI (mo))), (5, .int (nI (k + 1))), (0, .ref 0), (1, .ref 20), (2, .ref 21)]) rfl ?_
            rw [show nI (k + 1) = nI ((k + 1)) from congrArg nI (by omega)]
            exact ih26 (k + 1) (by omega) _ _ _ _ _ hnext
          · skip
            have hnext := And.intro hI2 (And.intro ((stk_off (k := k) (s := s2) h59 eb h121).symm.trans hinv26.2.1) hinv26.2.2)
            refine ev_b bX7_looked_124_26 (lv' := [(3, .int (nI ((q - 1) + 1))), (5, .int (nI (k + 1))), (7, .int (nI (p))), (6, .int (nI (m))), (4, .int (nI (mo))), (0, .ref 0), (1, .ref 20), (2, .ref 21)]) (st' := []) (w2 := modW 0 S ((X.rf, wo, ta, ow, 0, X.sh, X.lt, X.ty, X.pl, X.nu, X.od, X.tt, oo, (ordN S S.ca).length, X.wn, X.pd, X.li, X.rr, X.rn, X.dr) : ModN) (some kf) ++ row20 20 fb ++ row20 21 (up fp (q - 1) (p + 1))) rfl ?_
            refine ev_pick (lv' := [(3, .int (nI ((q - 1) + 1))), (4, .int (nI (mo))), (5, .int (nI (k + 1))), (0, .ref 0), (1, .ref 20), (2, .ref 21)]) rfl ?_
            rw [show nI (k + 1) = nI ((k + 1)) from congrArg nI (by omega)]
            exact ih26 (k + 1) (by omega) _ _ _ _ _ hnext
        · skip
          have hnext := And.intro hI (And.intro ((stk_leaf (k := k) (s := s2) h59 h71).symm.trans hinv26.2.1) (leaf_le hS (m := m) hinv26.2.2))
          refine ev_b bX7_looked_74_82 (lv' := [(5, .int (nI (k + 1))), (7, .int (nI (p))), (6, .int (nI (m))), (3, .int (nI (q - 1))), (4, .int (nI (mo))), (0, .ref 0), (1, .ref 20), (2, .ref 21)]) (st' := [.int (nI (m)), .ref 8, .int (nI (mo))]) (w2 := modW 0 S ((X.rf, wo, ta, ow, 0, X.sh, X.lt, X.ty, X.pl, X.nu, X.od, X.tt, oo, (ordN S S.ca).length, X.wn, X.pd, X.li, X.rr, X.rn, X.dr) : ModN) (some kf) ++ row20 20 fb ++ row20 21 fp) rfl ?_
          refine ev_iald_z (f := wo) dX7_looked_82 rfl (by omega) (by decide) ?_
          refine ev_top2 (y := zI (((mo : Nat) : Int))) (zI_nat _).symm ?_
          refine ev_max dX7_looked_83 tw_1187 tw_655 tw_15 tw_656 (by decide) (Nat.le_of_ble_eq_true rfl) (Nat.le_refl _) (Nat.le_refl _) ?_
          refine ev_top (z_max (by constructor <;> omega) (by rw [hwm]; constructor <;> omega)) ?_
          refine ev_top (y := (nI ((if allS S m then max mo (worthN S m) else mo)))) (by rw [show max (((mo : Nat) : Int)) (wo m) = (((if allS S m then max mo (worthN S m) else mo) : Nat) : Int) from by rw [hwm]; exact leaf_max hdm]; exact zI_nat _) ?_
          refine ev_b bX7_looked_86_26 (lv' := [(4, .int (nI ((if allS S m then max mo (worthN S m) else mo)))), (5, .int (nI (k + 1))), (7, .int (nI (p))), (6, .int (nI (m))), (3, .int (nI (q - 1))), (0, .ref 0), (1, .ref 20), (2, .ref 21)]) (st' := []) (w2 := modW 0 S ((X.rf, wo, ta, ow, 0, X.sh, X.lt, X.ty, X.pl, X.nu, X.od, X.tt, oo, (ordN S S.ca).length, X.wn, X.pd, X.li, X.rr, X.rn, X.dr) : ModN) (some kf) ++ row20 20 fb ++ row20 21 fp) rfl ?_
          refine ev_pick (lv' := [(3, .int (nI (q - 1))), (4, .int (nI ((if allS S m then max mo (worthN S m) else mo)))), (5, .int (nI (k + 1))), (0, .ref 0), (1, .ref 20), (2, .ref 21)]) rfl ?_
          rw [show nI (k + 1) = nI ((k + 1)) from congrArg nI (by omega)]
          exact ih26 (k + 1) (by omega) _ _ _ _ _ hnext
      · skip
        have hnext := And.intro hI (And.intro ((stk_low (k := k) (s := s2) (Nat.not_le.mp h59)).symm.trans hinv26.2.1) hinv26.2.2)
        refine ev_b bX7_looked_62_26 (lv' := [(5, .int (nI (k + 1))), (7, .int (nI (p))), (6, .int (nI (m))), (3, .int (nI (q - 1))), (4, .int (nI (mo))), (0, .ref 0), (1, .ref 20), (2, .ref 21)]) (st' := []) (w2 := modW 0 S ((X.rf, wo, ta, ow, 0, X.sh, X.lt, X.ty, X.pl, X.nu, X.od, X.tt, oo, (ordN S S.ca).length, X.wn, X.pd, X.li, X.rr, X.rn, X.dr) : ModN) (some kf) ++ row20 20 fb ++ row20 21 fp) rfl ?_
        refine ev_pick (lv' := [(3, .int (nI (q - 1))), (4, .int (nI (mo))), (5, .int (nI (k + 1))), (0, .ref 0), (1, .ref 20), (2, .ref 21)]) rfl ?_
        rw [show nI (k + 1) = nI ((k + 1)) from congrArg nI (by omega)]
        exact ih26 (k + 1) (by omega) _ _ _ _ _ hnext
  refine ev_pick (lv' := [(3, .int (nI (1))), (4, .int (nI (0))), (5, .int (nI (0))), (0, .ref 0), (1, .ref 20), (2, .ref 21)]) rfl ?_
  exact L26 ((lookL S (ordN S S.ca) 0 (0, 0)).1) 0 (by omega) _ _ [(0, 0)] 1 0 ⟨stk_start, rfl, by omega⟩
