/-! ===== the states of the class's objects, and what is read off them ===== -/
section EVB
variable {l : Launch} {E : XE} {Y : MI} {d mc ms : Nat} {w0 : AW} {Po : Option Value → AW → Prop} {nc ns pc : Nat} {lv : AL} {st : List Value} {w : AW}
theorem b01_is1 {c : Prop} [Decidable c] : nI (b01 c) = nI 1 ↔ c := by
  by_cases h : c
  · rw [b01_t h]; simp only [h]
  · rw [b01_f h]; simp only [h, iff_false]; decide
theorem b01_is0 {c : Prop} [Decidable c] : nI (b01 c) = nI 0 ↔ ¬ c := b01_0
theorem ev_icmpne_b1 {c : Prop} [Decidable c] {off : Int} {tgt : Nat} (hd : decode Y.2.1 pc = .ok (.if_icmp .ne off, 3)) (ht : (pc : Int) + off = (tgt : Int)) (kt : ¬ c → Ev l E Y d mc ms w0 Po nc ns tgt lv st w) (kf : c → Ev l E Y d mc ms w0 Po nc ns (pc + 3) lv st w) : Ev l E Y d mc ms w0 Po nc ns pc lv (.int (nI 1) :: .int (nI (b01 c)) :: st) w :=
  ev_icmp_ne hd ht (fun q => kt (fun z => q (b01_is1.mpr z))) (fun q => kf (b01_is1.mp q))
theorem ev_icmpeq_b1 {c : Prop} [Decidable c] {off : Int} {tgt : Nat} (hd : decode Y.2.1 pc = .ok (.if_icmp .eq off, 3)) (ht : (pc : Int) + off = (tgt : Int)) (kt : c → Ev l E Y d mc ms w0 Po nc ns tgt lv st w) (kf : ¬ c → Ev l E Y d mc ms w0 Po nc ns (pc + 3) lv st w) : Ev l E Y d mc ms w0 Po nc ns pc lv (.int (nI 1) :: .int (nI (b01 c)) :: st) w :=
  ev_icmp_eq hd ht (fun q => kt (b01_is1.mp q)) (fun q => kf (fun z => q (b01_is1.mpr z)))
theorem ev_iald_n {a i n : Nat} {f : Nat → Nat} (hd : decode Y.2.1 pc = .ok (.iaload, 1)) (hw : w[a]? = some (.inl (0, n, .inl (aI f)))) (hi : i < n) (hn : n ≤ 65536) (k : Ev l E Y d mc ms w0 Po nc ns (pc + 1) lv (.int (nI (f i)) :: st) w) : Ev l E Y d mc ms w0 Po nc ns pc lv (.int (nI i) :: .ref a :: st) w := ev_iald hd hw hi hn k
theorem ev_iald_z {a i n : Nat} {f : Nat → Int} (hd : decode Y.2.1 pc = .ok (.iaload, 1)) (hw : w[a]? = some (.inl (0, n, .inl (aZ f)))) (hi : i < n) (hn : n ≤ 65536) (k : Ev l E Y d mc ms w0 Po nc ns (pc + 1) lv (.int (zI (f i)) :: st) w) : Ev l E Y d mc ms w0 Po nc ns pc lv (.int (nI i) :: .ref a :: st) w := ev_iald hd hw hi hn k
end EVB
abbrev SaleN : Type := (Nat → Nat) × (Nat → Nat) × (Nat → Nat) × (Nat → Nat) × (Nat → Nat) × (Nat → Nat) × (Nat → Nat) × Nat × Nat
abbrev SaleN.bd (S : SaleN) : Nat → Nat := S.1
abbrev SaleN.st (S : SaleN) : Nat → Nat := S.2.1
abbrev SaleN.pr (S : SaleN) : Nat → Nat := S.2.2.1
abbrev SaleN.ow (S : SaleN) : Nat → Nat := S.2.2.2.1
abbrev SaleN.kd (S : SaleN) : Nat → Nat := S.2.2.2.2.1
abbrev SaleN.fg (S : SaleN) : Nat → Nat := S.2.2.2.2.2.1
abbrev SaleN.rs (S : SaleN) : Nat → Nat := S.2.2.2.2.2.2.1
abbrev SaleN.ca (S : SaleN) : Nat := S.2.2.2.2.2.2.2.1
abbrev SaleN.ac (S : SaleN) : Nat := S.2.2.2.2.2.2.2.2
def saleW (b : Nat) (S : SaleN) : AW := [.inr (4, [.ref (b + 1), .ref (b + 2), .ref (b + 3), .ref (b + 4), .ref (b + 5), .ref (b + 6), .ref (b + 7), .int (nI S.ca), .int (nI S.ac)]), .inl (0, 10, .inl (aI S.bd)), .inl (0, 10, .inl (aI S.st)), .inl (0, 10, .inl (aI S.pr)), .inl (0, 5, .inl (aI S.ow)), .inl (0, 5, .inl (aI S.kd)), .inl (0, 5, .inl (aI S.fg)), .inl (0, 6, .inl (aI S.rs))]
/-- which bids are a bidder's -/
def ownTo (bd : Nat → Nat) (b : Nat) : Nat → Nat
  | 0 => 0
  | k + 1 => if bd k = b then ownTo bd b k ||| 1 <<< k else ownTo bd b k
/-- what is always so of the bids, the bidders, the items -/
def SaleOK (S : SaleN) : Prop := S.ca ≤ 10 ∧ S.ac < 2 ^ S.ca ∧ (∀ k, k < S.ca → S.bd k < 5 ∧ 0 < S.st k ∧ S.st k < 64 ∧ S.pr k ≤ 99) ∧ (∀ b, b < 5 → S.ow b = ownTo S.bd b S.ca ∧ S.kd b < 6 ∧ S.fg b ≤ 9) ∧ ∀ i, i < 6 → S.rs i ≤ 9
def prTo (pr : Nat → Nat) (bits : Nat) : Nat → Nat
  | 0 => 0
  | k + 1 => prTo pr bits k + if bits.testBit k = true then pr k else 0
def itTo (st : Nat → Nat) (bits : Nat) : Nat → Nat
  | 0 => 0
  | k + 1 => if bits.testBit k = true then itTo st bits k ||| st k else itTo st bits k
def hdTo (st : Nat → Nat) (items : Nat) : Nat → Nat
  | 0 => 0
  | k + 1 => if st k &&& items ≠ 0 then hdTo st items k ||| 1 <<< k else hdTo st items k
def rbTo (rs : Nat → Nat) (items : Nat) : Nat → Nat
  | 0 => 0
  | i + 1 => rbTo rs items i + if items.testBit i = true then 0 else rs i
def bgTo (ow : Nat → Nat) (group : Nat) : Nat → Nat
  | 0 => 0
  | b + 1 => if group.testBit b = true then bgTo ow group b ||| ow b else bgTo ow group b
theorem shr1 (x k : Nat) : x >>> k &&& 1 = b01 (x.testBit k = true) := by
  unfold Nat.testBit
  rw [Nat.and_comm]
  have h : 1 &&& x >>> k < 2 := by
    have := Nat.and_le_left (n := 1) (m := x >>> k)
    omega
  by_cases hz : 1 &&& x >>> k = 0
  · rw [hz]; rfl
  · have h1 : 1 &&& x >>> k = 1 := by omega
    rw [h1]; rfl
theorem and_bit (x k : Nat) : x &&& 1 <<< k ≠ 0 ↔ x.testBit k = true := by
  rw [Nat.one_shiftLeft]
  constructor
  · intro h
    cases hb : x.testBit k with
    | true => rfl
    | false =>
      exfalso
      apply h
      apply Nat.eq_of_testBit_eq
      intro i
      rw [Nat.testBit_and, Nat.zero_testBit, Nat.testBit_two_pow]
      by_cases hi : k = i
      · subst hi; simp [hb]
      · simp [hi]
  · intro h h0
    have h1 : (x &&& 2 ^ k).testBit k = false := by rw [h0]; exact Nat.zero_testBit k
    rw [Nat.testBit_and, Nat.testBit_two_pow_self, h] at h1
    cases h1
theorem shl_lt {k n : Nat} (h : k < n) : 1 <<< k < 2 ^ n := by
  rw [Nat.one_shiftLeft]
  exact Nat.pow_lt_pow_right (by decide) h
theorem prTo_le {pr : Nat → Nat} {bits n : Nat} : ∀ m, m ≤ n → (∀ k, k < n → pr k ≤ 99) → prTo pr bits m ≤ 99 * m
  | 0, _, _ => Nat.le_refl _
  | m + 1, h, hp => by
    have h1 := prTo_le (bits := bits) m (by omega) hp
    have h2 := hp m (by omega)
    unfold prTo
    split <;> omega
theorem or_lt {a b n : Nat} (ha : a < 2 ^ n) (hb : b < 2 ^ n) : a ||| b < 2 ^ n := Nat.or_lt_two_pow ha hb
theorem itTo_lt {st : Nat → Nat} {bits n : Nat} : ∀ m, m ≤ n → (∀ k, k < n → st k < 64) → itTo st bits m < 64
  | 0, _, _ => Nat.zero_lt_succ _
  | m + 1, h, hp => by
    have h1 := itTo_lt (bits := bits) m (by omega) hp
    have h2 := hp m (by omega)
    unfold itTo
    split
    · exact or_lt (n := 6) h1 h2
    · exact h1
theorem hdTo_lt {st : Nat → Nat} {items : Nat} : ∀ m, hdTo st items m < 2 ^ m
  | 0 => Nat.two_pow_pos 0
  | m + 1 => by
    have h1 := hdTo_lt (st := st) (items := items) m
    have h2 : (2 : Nat) ^ m < 2 ^ (m + 1) := Nat.pow_lt_pow_right (by decide) (by omega)
    unfold hdTo
    split
    · exact or_lt (by omega) (shl_lt (by omega))
    · omega
theorem ownTo_lt {bd : Nat → Nat} {b : Nat} : ∀ m, ownTo bd b m < 2 ^ m
  | 0 => Nat.two_pow_pos 0
  | m + 1 => by
    have h1 := ownTo_lt (bd := bd) (b := b) m
    have h2 : (2 : Nat) ^ m < 2 ^ (m + 1) := Nat.pow_lt_pow_right (by decide) (by omega)
    unfold ownTo
    split
    · exact or_lt (by omega) (shl_lt (by omega))
    · omega
theorem rbTo_le {rs : Nat → Nat} {items n : Nat} : ∀ m, m ≤ n → (∀ i, i < n → rs i ≤ 9) → rbTo rs items m ≤ 9 * m
  | 0, _, _ => Nat.le_refl _
  | m + 1, h, hp => by
    have h1 := rbTo_le (items := items) m (by omega) hp
    have h2 := hp m (by omega)
    unfold rbTo
    split <;> omega
theorem bgTo_lt {ow : Nat → Nat} {group N n : Nat} : ∀ m, m ≤ n → (∀ b, b < n → ow b < 2 ^ N) → bgTo ow group m < 2 ^ N
  | 0, _, _ => Nat.two_pow_pos N
  | m + 1, h, hp => by
    have h1 := bgTo_lt (group := group) m (by omega) hp
    have h2 := hp m (by omega)
    unfold bgTo
    split
    · exact or_lt h1 h2
    · exact h1

