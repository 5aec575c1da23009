/-! ===== long numbers: coded as numbers, the greatest divisor, powers ===== -/
section EVL
variable {l : Launch} {E : XE} {Y : MI} {d mc ms : Nat} {w0 : AW} {Po : Option Value → AW → Prop} {nc ns pc : Nat} {lv : AL} {st : List Value} {w : AW}
theorem ev_topL {x y : Int64} (h : x = y) (k : Ev l E Y d mc ms w0 Po nc ns pc lv (.long y :: st) w) : Ev l E Y d mc ms w0 Po nc ns pc lv (.long x :: st) w := by rw [h]; exact k
end EVL
def big : Nat := 4611686018427387904
theorem lN_bv (n : Nat) : (lN n).toBitVec = BitVec.ofNat 64 n := rfl
theorem lN_int {n : Nat} (h : n < big) : (lN n).toInt = (n : Int) := by
  unfold big at h
  exact Int64.toInt_ofNat_of_lt (by omega)
theorem lN_div {a b : Nat} (ha : a < big) (hb : b < big) : lN a / lN b = lN (a / b) := by
  apply Int64.toInt_inj.1
  have h1 : a / b ≤ a := Nat.div_le_self a b
  rw [Int64.toInt_div_of_ne_left, lN_int ha, lN_int hb, lN_int (by omega)]
  · show Int.tdiv (a : Int) (b : Int) = ((a / b : Nat) : Int)
    rw [Int.ofNat_tdiv]
  · intro h
    have h2 := congrArg Int64.toInt h
    rw [lN_int ha] at h2
    have h3 : (Int64.minValue).toInt = -9223372036854775808 := by decide
    rw [h3] at h2
    omega
theorem lN_rem {a b : Nat} (ha : a < big) (hb : b < big) : lN a - lN a / lN b * lN b = lN (a % b) := by
  rw [lN_div ha hb, lN_mul, lN_sub (Nat.div_mul_le_self a b)]
  congr 1
  have := Nat.div_add_mod a b
  rw [Nat.mul_comm] at this
  omega
theorem lN_ne {b : Nat} (hb : b < big) (h : b ≠ 0) : ¬ lN b = 0 := by
  intro h2
  have h3 := congrArg Int64.toInt h2
  rw [lN_int hb] at h3
  have h4 : (0 : Int64).toInt = 0 := by decide
  omega
theorem lcmp_0 {a : Nat} (ha : a < big) : lg_cmp (lN a) 0 = 0 ↔ a = 0 := by
  have h4 : (0 : Int64).toInt = 0 := by decide
  have hi := lN_int ha
  constructor
  · intro h
    by_cases h0 : a = 0
    · exact h0
    · exfalso
      have hlt : (0 : Int64) < lN a := by rw [Int64.lt_iff_toInt_lt, hi, h4]; omega
      have hn : ¬ lN a < 0 := by rw [Int64.lt_iff_toInt_lt, hi, h4]; omega
      unfold lg_cmp at h
      first
        | (rw [if_neg hn, if_neg (fun z => lN_ne ha h0 z)] at h; exact absurd h (by decide))
        | (rw [if_pos hlt] at h; exact absurd h (by decide))
        | (rw [if_neg (lN_ne ha h0), if_neg hn] at h; exact absurd h (by decide))
        | (rw [if_neg hn, if_pos hlt] at h; exact absurd h (by decide))
  · rintro rfl
    decide
/-- two steps of Euclid halve the product -/
theorem eu_half {x y : Nat} (h : y < x) : y * (x % y) * 2 ≤ x * y := by
  by_cases hy : y = 0
  · subst hy
    omega
  · have h1 := Nat.mod_lt x (show 0 < y by omega)
    have h2 := Nat.div_add_mod x y
    have h3 : 1 ≤ x / y := (Nat.le_div_iff_mul_le (by omega)).mpr (by omega)
    have h4 : x % y * 2 ≤ x := by
      have h5 : y * 1 ≤ y * (x / y) := Nat.mul_le_mul (Nat.le_refl y) h3
      omega
    have h6 := Nat.mul_le_mul (Nat.le_refl y) h4
    rw [Nat.mul_assoc, Nat.mul_comm x y]
    exact h6
def EuI (a b k x y : Nat) : Prop := Nat.gcd x y = Nat.gcd a b ∧ x < big ∧ y < big ∧ (k = 0 ∨ (y < x ∧ x * y * 2 ^ k ≤ 2 * (big * big)))
theorem eu_start {a b : Nat} (ha : a < big) (hb : b < big) : EuI a b 0 a b := ⟨rfl, ha, hb, Or.inl rfl⟩
theorem eu_step {a b k x y : Nat} (h : EuI a b k x y) (hy : y ≠ 0) : EuI a b (k + 1) y (x % y) := by
  obtain ⟨h1, h2, h3, h4⟩ := h
  have hm := Nat.mod_lt x (show 0 < y by omega)
  refine ⟨?_, h3, by omega, Or.inr ⟨hm, ?_⟩⟩
  · rw [← h1, Nat.gcd_comm x y, Nat.gcd_rec y x, Nat.gcd_comm]
  · rcases h4 with rfl | ⟨h5, h6⟩
    · have h7 : y * (x % y) ≤ big * big := Nat.mul_le_mul (by omega) (by omega)
      rw [Nat.zero_add, Nat.pow_one]
      omega
    · have h7 := eu_half h5
      have h8 := Nat.mul_le_mul h7 (Nat.le_refl (2 ^ k))
      rw [Nat.pow_succ]
      have e : y * (x % y) * (2 ^ k * 2) = y * (x % y) * 2 * 2 ^ k := by
        rw [Nat.mul_comm (2 ^ k) 2, ← Nat.mul_assoc]
      rw [e]
      exact Nat.le_trans h8 h6
theorem eu_end {a b x y : Nat} (h : EuI a b 200 x y) : y = 0 := by
  obtain ⟨h1, h2, h3, h4⟩ := h
  rcases h4 with h4 | ⟨h5, h6⟩
  · cases h4
  · by_cases hy : y = 0
    · exact hy
    · exfalso
      have h7 : 1 * 1 ≤ x * y := Nat.mul_le_mul (by omega) (by omega)
      have h8 := Nat.mul_le_mul h7 (Nat.le_refl (2 ^ 200))
      have h9 : 1 * 1 * 2 ^ 200 ≤ 2 * (big * big) := Nat.le_trans h8 h6
      exact absurd h9 (by decide)
theorem eu_gcd {a b k x : Nat} (h : EuI a b k x 0) : x = Nat.gcd a b := by
  have := h.1
  rw [Nat.gcd_zero_right] at this
  exact this
/-- a fraction in least terms: above, below the line -/
def frN (a b part : Nat) : Nat := if a = 0 ∨ b = 0 then part else (if part = 0 then a else b) / Nat.gcd a b
theorem nI_lN {n : Nat} (h : n < 2147483648) : (nI n).toInt64 = lN n := nI_l h
theorem fr_0 {b part : Nat} (hb : b ≠ 0) (hp : part ≤ 1) : (if part = 0 then 0 else b) / Nat.gcd 0 b = part := by
  rw [Nat.gcd_zero_left]
  split
  · rw [Nat.zero_div]; omega
  · rw [Nat.div_self (by omega)]
    omega
theorem big_lt {n : Nat} (h : n < 2147483648) : n < big := by
  unfold big
  omega

theorem gcd_ne {a b : Nat} (hb : b ≠ 0) : Nat.gcd a b ≠ 0 := fun h => hb (Nat.eq_zero_of_gcd_eq_zero_right h)
theorem gcd_big {a b : Nat} (hb : b ≠ 0) (h : b < big) : Nat.gcd a b < big := Nat.lt_of_le_of_lt (Nat.le_of_dvd (by omega) (Nat.gcd_dvd_right a b)) h
theorem fr_m {a b part : Nat} (hb : b ≠ 0) (hp : part ≤ 1) : (if part = 0 then a else b) / Nat.gcd a b = frN a b part := by
  unfold frN
  by_cases ha : a = 0
  · subst ha
    rw [if_pos (Or.inl rfl)]
    exact fr_0 hb hp
  · rw [if_neg (c := a = 0 ∨ b = 0) (fun z => z.elim ha hb)]
def cntTo (f : Nat → Int) : Nat → Nat
  | 0 => 0
  | k + 1 => cntTo f k + if 0 < f k then 1 else 0
theorem cntTo_s {f : Nat → Int} {k : Nat} : cntTo f (k + 1) = cntTo f k + if 0 < f k then 1 else 0 := rfl
theorem cntTo_le (f : Nat → Int) : ∀ k, cntTo f k ≤ k
  | 0 => Nat.le_refl _
  | k + 1 => by
    rw [cntTo_s]
    have := cntTo_le f k
    split <;> omega
/-- the odds that a bid is among the winners: the part above the line, from the sets below n -/
def abTo (S : SaleN) (b t : Nat) : Nat → Nat
  | 0 => 0
  | c + 1 => abTo S b t c + if andn c S.ac = 0 ∧ (winB S c).testBit b = true then (t - 1) ^ pop c else 0
theorem abTo_s {S : SaleN} {b t c : Nat} : abTo S b t (c + 1) = abTo S b t c + if andn c S.ac = 0 ∧ (winB S c).testBit b = true then (t - 1) ^ pop c else 0 := rfl
theorem ab_none {S : SaleN} {b t lo : Nat} : ∀ hi, lo ≤ hi → (∀ c, lo ≤ c → c < hi → ¬ andn c S.ac = 0) → abTo S b t hi = abTo S b t lo
  | 0, h, _ => by
    have : lo = 0 := by omega
    subst this; rfl
  | hi + 1, h, hn => by
    by_cases e : lo = hi + 1
    · subst e; rfl
    · rw [abTo_s, if_neg (fun z => hn hi (by omega) (by omega) z.1), Nat.add_zero]
      exact ab_none hi (by omega) (fun c h1 h2 => hn c h1 (by omega))
theorem ab_gap {S : SaleN} {b t m : Nat} (hm : andn m S.ac = 0) (h0 : m ≠ 0) : abTo S b t m = abTo S b t (((m - 1) &&& S.ac) + 1) := by
  refine ab_none m ?_ (fun c h1 h2 h3 => ?_)
  · have := Nat.and_le_left (n := m - 1) (m := S.ac)
    omega
  · have := sub_next m S.ac c hm h3 h2
    omega
theorem ab_top {S : SaleN} (hS : SaleOK S) {b t : Nat} : abTo S b t (S.ac + 1) = abTo S b t 1024 := by
  have h1 := hS.2.1
  have h2 := pow_ca hS
  exact (ab_none 1024 (by omega) (fun c h3 h4 h5 => by have := sub_le h5; omega)).symm
theorem win_zero {S : SaleN} (hS : SaleOK S) : winB S 0 = 0 := Nat.le_zero.mp (sub_le (win_spec hS 0).2.1)
theorem ab_one {S : SaleN} (hS : SaleOK S) {b t : Nat} : abTo S b t 1 = 0 := by
  show 0 + (if andn 0 S.ac = 0 ∧ (winB S 0).testBit b = true then (t - 1) ^ pop 0 else 0) = 0
  rw [if_neg (fun z => by rw [win_zero hS, Nat.zero_testBit] at z; cases z.2)]
set_option maxRecDepth 100000 in
theorem pow_lt19 {t n : Nat} (ht : t ≤ 20) (hn : n ≤ 10) : (t - 1) ^ n ≤ 6131066257801 := by
  have h1 : (t - 1) ^ n ≤ 19 ^ n := Nat.pow_le_pow_left (by omega) n
  have h2 : 19 ^ n ≤ 19 ^ 10 := Nat.pow_le_pow_right (by decide) hn
  have h3 : (19 : Nat) ^ 10 = 6131066257801 := by decide
  omega
set_option maxRecDepth 100000 in
theorem pow_lt20 {t n : Nat} (ht : t ≤ 20) (hn : n ≤ 10) : t ^ n ≤ 10240000000000 := by
  have h1 : t ^ n ≤ 20 ^ n := Nat.pow_le_pow_left ht n
  have h2 : 20 ^ n ≤ 20 ^ 10 := Nat.pow_le_pow_right (by decide) hn
  have h3 : (20 : Nat) ^ 10 = 10240000000000 := by decide
  omega
set_option maxRecDepth 100000 in
theorem ab_le {S : SaleN} {b t : Nat} (ht : t ≤ 20) : ∀ n, abTo S b t n ≤ n * 6131066257801
  | 0 => Nat.zero_le _
  | n + 1 => by
    rw [abTo_s]
    have h1 := ab_le (S := S) (b := b) ht n
    have h2 := pow_lt19 (n := pop n) ht (pop_le n)
    rw [Nat.succ_mul]
    refine Nat.add_le_add h1 ?_
    split
    · exact h2
    · exact Nat.zero_le _
set_option maxRecDepth 100000 in
theorem ab_big {S : SaleN} {b t : Nat} (ht : t ≤ 20) : abTo S b t 1024 < big := by
  have := ab_le (S := S) (b := b) ht 1024
  unfold big
  omega
set_option maxRecDepth 100000 in
theorem pw_big {t n : Nat} (ht : t ≤ 20) (hn : n ≤ 10) : t ^ n < big := by
  have := pow_lt20 ht hn
  unfold big
  omega
/-! draws -/
def drA (x : Int32) : Nat := (x &&& 2147483647).toNatClampNeg
theorem dr_nn (x : Int32) : ¬ (x &&& 2147483647) < 0 := by
  intro h
  have h1 : (x &&& 2147483647).toBitVec.msb = false := by
    rw [Int32.toBitVec_and, BitVec.msb_and]
    have : (2147483647 : Int32).toBitVec.msb = false := by decide
    rw [this, Bool.and_false]
  rw [Int32.lt_iff_toInt_lt] at h
  have h2 : (x &&& 2147483647).toInt = (x &&& 2147483647).toBitVec.toInt := rfl
  rw [h2, BitVec.toInt_eq_msb_cond, h1] at h
  have h3 : (0 : Int32).toInt = 0 := by decide
  rw [h3] at h
  simp at h
  omega
theorem dr_and (x : Int32) : x &&& nI 2147483647 = nI (drA x) := by
  obtain ⟨j, hj, e⟩ := nI_of (dr_nn x)
  unfold drA
  show x &&& 2147483647 = _
  rw [e, nI_clamp hj]
theorem drA_lt (x : Int32) : drA x < 2147483648 := by
  obtain ⟨j, hj, e⟩ := nI_of (dr_nn x)
  unfold drA
  rw [e, nI_clamp hj]
  exact hj
def drN (x : Int32) : Nat := drA x / 256 % 99
/-- prices drawn, one bid behind the other; lot behind lot -/
def drB (c : (Nat → Nat) × Int32) : Nat → (Nat → Nat) × Int32
  | 0 => c
  | j + 1 => (up (drB c j).1 j (1 + drN (seedN (drB c j).2)), seedN (drB c j).2)
def lotC (S : SaleN) (z : Int32) : Nat → (Nat → Nat) × Int32
  | 0 => (S.pr, z)
  | k + 1 => drB (lotC S z k) S.ca
def prS (S : SaleN) (p : Nat → Nat) : SaleN := (S.bd, S.st, p, S.ow, S.kd, S.fg, S.rs, S.ca, S.ac)
def lotW (S : SaleN) (z : Int32) : Nat → Int
  | 0 => 0
  | k + 1 => lotW S z k + ((winW (prS S (lotC S z (k + 1)).1) 1023 : Nat) : Int)
def lotP (S : SaleN) (z : Int32) : Nat → Int
  | 0 => 0
  | k + 1 => lotP S z k + totZ (paidZ (prS S (lotC S z (k + 1)).1)) 31 5
theorem drB_le {c : (Nat → Nat) × Int32} {n : Nat} (h : ∀ k, k < n → c.1 k ≤ 99) : ∀ j k, k < n → (drB c j).1 k ≤ 99
  | 0, k, hk => h k hk
  | j + 1, k, hk => by
    show up (drB c j).1 j _ k ≤ 99
    unfold up
    split
    · unfold drN
      omega
    · exact drB_le h j k hk
theorem lot_le {S : SaleN} (hS : SaleOK S) {z : Int32} : ∀ l k, k < S.ca → (lotC S z l).1 k ≤ 99
  | 0, k, hk => (hS.2.2.1 k hk).2.2.2
  | l + 1, k, hk => drB_le (lot_le hS l) S.ca k hk
theorem prS_ok {S : SaleN} (hS : SaleOK S) {p : Nat → Nat} (hp : ∀ k, k < S.ca → p k ≤ 99) : SaleOK (prS S p) := ⟨hS.1, hS.2.1, fun k hk => ⟨(hS.2.2.1 k hk).1, (hS.2.2.1 k hk).2.1, (hS.2.2.1 k hk).2.2.1, hp k hk⟩, hS.2.2.2⟩
theorem lot_ok {S : SaleN} (hS : SaleOK S) {z : Int32} (l : Nat) : SaleOK (prS S (lotC S z l).1) := prS_ok hS (lot_le hS l)
theorem fr_max {a n part : Nat} (h : n = 0 → a = 0) (hp : part ≤ 1) : frN a (max 1 n) part = frN a n part := by
  by_cases hn : n = 0
  · unfold frN
    rw [h hn, if_pos (Or.inl rfl), if_pos (Or.inl rfl)]
  · rw [show max 1 n = n by omega]
