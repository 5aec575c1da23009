/-! ===== the states of the class's objects, and what is read off them ===== -/
section EVB
variable {l : Launch} {E : XE} {Y : MI} {d mc ms : Nat} {w0 : AW} {Po : Option Value → AW → Prop} {nc ns pc : Nat} {lv : AL} {st : List Value} {w : AW}
theorem b01_is1 {c : Prop} [Decidable c] : nI (b01 c) = nI 1 ↔ c := by
  by_cases h : c
  · rw [b01_t h]; simp only [h]
  · rw [b01_f h]; simp only [h, iff_false]; decide
theorem b01_is0 {c : Prop} [Decidable c] : nI (b01 c) = nI 0 ↔ ¬ c := b01_0
theorem ev_icmpne_b1 {c : Prop} [Decidable c] {off : Int} {tgt : Nat} (hd : decode Y.2.1 pc = .ok (.if_icmp .ne off, 3)) (ht : (pc : Int) + off = (tgt : Int)) (kt : ¬ c → Ev l E Y d mc ms w0 Po nc ns tgt lv st w) (kf : c → Ev l E Y d mc ms w0 Po nc ns (pc + 3) lv st w) : Ev l E Y d mc ms w0 Po nc ns pc lv (.int (nI 1) :: .int (nI (b01 c)) :: st) w :=
  ev_icmp_ne hd ht (fun q => kt (fun z => q (b01_is1.mpr z))) (fun q => kf (b01_is1.mp q))
theorem ev_icmpeq_b1 {c : Prop} [Decidable c] {off : Int} {tgt : Nat} (hd : decode Y.2.1 pc = .ok (.if_icmp .eq off, 3)) (ht : (pc : Int) + off = (tgt : Int)) (kt : c → Ev l E Y d mc ms w0 Po nc ns tgt lv st w) (kf : ¬ c → Ev l E Y d mc ms w0 Po nc ns (pc + 3) lv st w) : Ev l E Y d mc ms w0 Po nc ns pc lv (.int (nI 1) :: .int (nI (b01 c)) :: st) w :=
  ev_icmp_eq hd ht (fun q => kt (b01_is1.mp q)) (fun q => kf (fun z => q (b01_is1.mpr z)))
theorem ev_iald_n {a i n : Nat} {f : Nat → Nat} (hd : decode Y.2.1 pc = .ok (.iaload, 1)) (hw : w[a]? = some (.inl (0, n, .inl (aI f)))) (hi : i < n) (hn : n ≤ 65536) (k : Ev l E Y d mc ms w0 Po nc ns (pc + 1) lv (.int (nI (f i)) :: st) w) : Ev l E Y d mc ms w0 Po nc ns pc lv (.int (nI i) :: .ref a :: st) w := ev_iald hd hw hi hn k
theorem ev_iald_z {a i n : Nat} {f : Nat → Int} (hd : decode Y.2.1 pc = .ok (.iaload, 1)) (hw : w[a]? = some (.inl (0, n, .inl (aZ f)))) (hi : i < n) (hn : n ≤ 65536) (k : Ev l E Y d mc ms w0 Po nc ns (pc + 1) lv (.int (zI (f i)) :: st) w) : Ev l E Y d mc ms w0 Po nc ns pc lv (.int (nI i) :: .ref a :: st) w := ev_iald hd hw hi hn k
theorem vp_cell_cong {cA : ClassId} {n : Nat} {f g : Nat → Int32} (h : ∀ j, j < n → f j = g j) : vp_cell cA (n, .inl f) = vp_cell cA (n, .inl g) := by
  rw [vp_cell_i, vp_cell_i]
  unfold arrV
  congr 1
  congr 1
  funext j
  exact congrArg Value.int (h j.val j.isLt)
/-- an array's cell may be told by any row that agrees with it as far as it goes -/
theorem ev_arr {b n : Nat} {f g : Nat → Int32} (hw : w[b]? = some (.inl (0, n, .inl f))) (h : ∀ j, j < n → f j = g j) (k : Ev l E Y d mc ms w0 Po nc ns pc lv st (w.set b (.inl (0, n, .inl g)))) : Ev l E Y d mc ms w0 Po nc ns pc lv st w := by
  intro p e s m args below meth c ad0 ad H locs ls C ha0 ha hP hD hS hl
  have hd := hD.set (e := xE E ad (.inl (0, n, .inl g))) (xW_at hw)
  rw [xW_set] at hd
  refine k p e s m args below meth c ad0 ad H locs ls C ha0 ha ?_ hd hS hl
  rw [← xW_set]
  refine hP.set hD (xW_at hw) ?_ (fun _ _ => rfl)
  have h1 := hP b _ (xW_at hw)
  show H[ad b]? = some (vp_cell E.2.1 (n, .inl g))
  rw [← vp_cell_cong h]
  exact h1
theorem ev_copy {a b n idx : Nat} {f g : Nat → Int32} (hd : decode Y.2.1 pc = .ok (.invokestatic idx, 3)) (hlk : (.methodLink Y.1.cls idx arraycopyName : Cond) ∈ tbl) (hnat : (.native arraycopyName : Cond) ∈ tbl) (hst : (.static arraycopyName : Cond) ∈ tbl) (hini : (.initialized "java/lang/System" : Cond) ∈ tbl)
    (hwa : w[a]? = some (.inl (0, n, .inl f))) (hwb : w[b]? = some (.inl (0, n, .inl g))) (hn : n ≤ 65536) (hdd : 1 ≤ d) (hcat : (st.map fun v => v.category).sum ≤ 8) (k : Ev l E Y d mc ms w0 Po nc ns (pc + 3) lv st (w.set b (.inl (0, n, .inl f)))) : Ev l E Y d mc ms w0 Po nc ns pc lv (.int (nI n) :: .int (nI 0) :: .ref b :: .int (nI 0) :: .ref a :: st) w := by
  intro p e s m args below meth c ad0 ad H locs ls C ha0 ha hP hD hS hl
  obtain ⟨hx, hb, hrt, hml, hown, hts, hlk2, hnm, hK, hXS, hXN⟩ := id C
  have hcat2 : (((st.map (xV E ad)).map fun v => v.category).sum) ≤ 8 := by rw [xCats]; exact hcat
  have h0 : (nI 0).toNatClampNeg = 0 := xto (by omega)
  have hnn : (nI n).toNatClampNeg = n := xto (by omega)
  have e1 : nativeFrameWords "java/lang/System" "arraycopy" 5 + 11 ≤ 40 := by decide
  refine va_copyi (sp := nI 0) (dp := nI 0) (n := nI n) hx hb (hml.trans hl.1.symm) hown (hts _ (List.mem_cons_of_mem _ hlk)) (hts _ (List.mem_cons_of_mem _ hnat)) (hts _ (List.mem_cons_of_mem _ hst)) (hts _ (List.mem_cons_of_mem _ hini)) hK hP hD hS a b 0 0 (xW_at hwa) (xW_at hwb) rfl rfl rfl (nI_pos (by omega)) (nI_pos (by omega)) (nI_pos (by omega)) (by rw [h0, hnn]; omega) (by rw [h0, hnn]; omega) (fun i _ => rfl) hdd (by show _ ≤ 100 * d; omega) hd (fun H1 locs1 hP1 hD1 hS1 => ?_)
  rw [h0, hnn] at hP1 hD1
  have he : (xW E ad w).set b (ad b, Sum.inl (E.2.1, n, Sum.inl (va_cpy f g 0 0 n))) = xW E ad (w.set b (.inl (0, n, .inl (va_cpy f g 0 0 n)))) := xW_set (e := .inl (0, n, .inl (va_cpy f g 0 0 n)))
  rw [he] at hP1 hD1
  have hk2 : Ev l E Y d mc ms w0 Po nc ns (pc + 3) lv st (w.set b (.inl (0, n, .inl (va_cpy f g 0 0 n)))) := by
    have hbl := (List.getElem?_eq_some_iff.mp hwb).1
    refine ev_arr (f := va_cpy f g 0 0 n) (g := f) (List.getElem?_set_self hbl) (fun j hj => ?_) ?_
    · unfold va_cpy
      rw [if_pos (by omega)]
      congr 1
      omega
    · rw [List.set_set]
      exact k
  exact hk2 p e s m args below meth c ad0 ad H1 locs1 ls C ha0 ha hP1 hD1 hS1 hl
end EVB
abbrev SaleN : Type := (Nat → Nat) × (Nat → Nat) × (Nat → Nat) × (Nat → Nat) × (Nat → Nat) × (Nat → Nat) × (Nat → Nat) × Nat × Nat
abbrev SaleN.bd (S : SaleN) : Nat → Nat := S.1
abbrev SaleN.st (S : SaleN) : Nat → Nat := S.2.1
abbrev SaleN.pr (S : SaleN) : Nat → Nat := S.2.2.1
abbrev SaleN.ow (S : SaleN) : Nat → Nat := S.2.2.2.1
abbrev SaleN.kd (S : SaleN) : Nat → Nat := S.2.2.2.2.1
abbrev SaleN.fg (S : SaleN) : Nat → Nat := S.2.2.2.2.2.1
abbrev SaleN.rs (S : SaleN) : Nat → Nat := S.2.2.2.2.2.2.1
abbrev SaleN.ca (S : SaleN) : Nat := S.2.2.2.2.2.2.2.1
abbrev SaleN.ac (S : SaleN) : Nat := S.2.2.2.2.2.2.2.2
def saleW (b : Nat) (S : SaleN) : AW := [.inr (4, [.ref (b + 1), .ref (b + 2), .ref (b + 3), .ref (b + 4), .ref (b + 5), .ref (b + 6), .ref (b + 7), .int (nI S.ca), .int (nI S.ac)]), .inl (0, 10, .inl (aI S.bd)), .inl (0, 10, .inl (aI S.st)), .inl (0, 10, .inl (aI S.pr)), .inl (0, 5, .inl (aI S.ow)), .inl (0, 5, .inl (aI S.kd)), .inl (0, 5, .inl (aI S.fg)), .inl (0, 6, .inl (aI S.rs))]
/-- which bids are a bidder's -/
def ownTo (bd : Nat → Nat) (b : Nat) : Nat → Nat
  | 0 => 0
  | k + 1 => if bd k = b then ownTo bd b k ||| 1 <<< k else ownTo bd b k
/-- what is always so of the bids, the bidders, the items -/
def SaleOK (S : SaleN) : Prop := S.ca ≤ 10 ∧ S.ac < 2 ^ S.ca ∧ (∀ k, k < S.ca → S.bd k < 5 ∧ 0 < S.st k ∧ S.st k < 64 ∧ S.pr k ≤ 99) ∧ (∀ b, b < 5 → S.ow b = ownTo S.bd b S.ca ∧ S.kd b < 6 ∧ S.fg b ≤ 9) ∧ ∀ i, i < 6 → S.rs i ≤ 9
def prTo (pr : Nat → Nat) (bits : Nat) : Nat → Nat
  | 0 => 0
  | k + 1 => prTo pr bits k + if bits.testBit k = true then pr k else 0
def itTo (st : Nat → Nat) (bits : Nat) : Nat → Nat
  | 0 => 0
  | k + 1 => if bits.testBit k = true then itTo st bits k ||| st k else itTo st bits k
def hdTo (st : Nat → Nat) (items : Nat) : Nat → Nat
  | 0 => 0
  | k + 1 => if st k &&& items ≠ 0 then hdTo st items k ||| 1 <<< k else hdTo st items k
def rbTo (rs : Nat → Nat) (items : Nat) : Nat → Nat
  | 0 => 0
  | i + 1 => rbTo rs items i + if items.testBit i = true then 0 else rs i
def bgTo (ow : Nat → Nat) (group : Nat) : Nat → Nat
  | 0 => 0
  | b + 1 => if group.testBit b = true then bgTo ow group b ||| ow b else bgTo ow group b
theorem shr1 (x k : Nat) : x >>> k &&& 1 = b01 (x.testBit k = true) := by
  unfold Nat.testBit
  rw [Nat.and_comm]
  have h : 1 &&& x >>> k < 2 := by
    have := Nat.and_le_left (n := 1) (m := x >>> k)
    omega
  by_cases hz : 1 &&& x >>> k = 0
  · rw [hz]; rfl
  · have h1 : 1 &&& x >>> k = 1 := by omega
    rw [h1]; rfl
theorem and_bit (x k : Nat) : x &&& 1 <<< k ≠ 0 ↔ x.testBit k = true := by
  rw [Nat.one_shiftLeft]
  constructor
  · intro h
    cases hb : x.testBit k with
    | true => rfl
    | false =>
      exfalso
      apply h
      apply Nat.eq_of_testBit_eq
      intro i
      rw [Nat.testBit_and, Nat.zero_testBit, Nat.testBit_two_pow]
      by_cases hi : k = i
      · subst hi; simp [hb]
      · simp [hi]
  · intro h h0
    have h1 : (x &&& 2 ^ k).testBit k = false := by rw [h0]; exact Nat.zero_testBit k
    rw [Nat.testBit_and, Nat.testBit_two_pow_self, h] at h1
    cases h1
theorem shl_lt {k n : Nat} (h : k < n) : 1 <<< k < 2 ^ n := by
  rw [Nat.one_shiftLeft]
  exact Nat.pow_lt_pow_right (by decide) h
theorem prTo_le {pr : Nat → Nat} {bits n : Nat} : ∀ m, m ≤ n → (∀ k, k < n → pr k ≤ 99) → prTo pr bits m ≤ 99 * m
  | 0, _, _ => Nat.le_refl _
  | m + 1, h, hp => by
    have h1 := prTo_le (bits := bits) m (by omega) hp
    have h2 := hp m (by omega)
    unfold prTo
    split <;> omega
theorem or_lt {a b n : Nat} (ha : a < 2 ^ n) (hb : b < 2 ^ n) : a ||| b < 2 ^ n := Nat.or_lt_two_pow ha hb
theorem itTo_lt {st : Nat → Nat} {bits n : Nat} : ∀ m, m ≤ n → (∀ k, k < n → st k < 64) → itTo st bits m < 64
  | 0, _, _ => Nat.zero_lt_succ _
  | m + 1, h, hp => by
    have h1 := itTo_lt (bits := bits) m (by omega) hp
    have h2 := hp m (by omega)
    unfold itTo
    split
    · exact or_lt (n := 6) h1 h2
    · exact h1
theorem hdTo_lt {st : Nat → Nat} {items : Nat} : ∀ m, hdTo st items m < 2 ^ m
  | 0 => Nat.two_pow_pos 0
  | m + 1 => by
    have h1 := hdTo_lt (st := st) (items := items) m
    have h2 : (2 : Nat) ^ m < 2 ^ (m + 1) := Nat.pow_lt_pow_right (by decide) (by omega)
    unfold hdTo
    split
    · exact or_lt (by omega) (shl_lt (by omega))
    · omega
theorem ownTo_lt {bd : Nat → Nat} {b : Nat} : ∀ m, ownTo bd b m < 2 ^ m
  | 0 => Nat.two_pow_pos 0
  | m + 1 => by
    have h1 := ownTo_lt (bd := bd) (b := b) m
    have h2 : (2 : Nat) ^ m < 2 ^ (m + 1) := Nat.pow_lt_pow_right (by decide) (by omega)
    unfold ownTo
    split
    · exact or_lt (by omega) (shl_lt (by omega))
    · omega
theorem rbTo_le {rs : Nat → Nat} {items n : Nat} : ∀ m, m ≤ n → (∀ i, i < n → rs i ≤ 9) → rbTo rs items m ≤ 9 * m
  | 0, _, _ => Nat.le_refl _
  | m + 1, h, hp => by
    have h1 := rbTo_le (items := items) m (by omega) hp
    have h2 := hp m (by omega)
    unfold rbTo
    split <;> omega
theorem bgTo_lt {ow : Nat → Nat} {group N n : Nat} : ∀ m, m ≤ n → (∀ b, b < n → ow b < 2 ^ N) → bgTo ow group m < 2 ^ N
  | 0, _, _ => Nat.two_pow_pos N
  | m + 1, h, hp => by
    have h1 := bgTo_lt (group := group) m (by omega) hp
    have h2 := hp m (by omega)
    unfold bgTo
    split
    · exact or_lt h1 h2
    · exact h1

/-- how many bits below m -/
def popTo (n : Nat) : Nat → Nat
  | 0 => 0
  | k + 1 => popTo n k + b01 (n.testBit k = true)
def pop (n : Nat) : Nat := popTo n 10
theorem popTo_le (n : Nat) : ∀ m, popTo n m ≤ m
  | 0 => Nat.le_refl _
  | m + 1 => by
    have h := popTo_le n m
    have h2 := b01_le (c := n.testBit m = true)
    unfold popTo
    omega
def bcA (x : Int32) : Int32 := x - ((x.toUInt32 >>> ((nI 1).toUInt32 &&& Int32.toUInt32 31)).toInt32 &&& nI 1431655765)
def bcB (x : Int32) : Int32 := (x &&& nI 858993459) + ((x.toUInt32 >>> ((nI 2).toUInt32 &&& Int32.toUInt32 31)).toInt32 &&& nI 858993459)
def bcC (x : Int32) : Int32 := (x + (x.toUInt32 >>> ((nI 4).toUInt32 &&& Int32.toUInt32 31)).toInt32) &&& nI 252645135
def bcD (x : Int32) : Int32 := x + (x.toUInt32 >>> ((nI 8).toUInt32 &&& Int32.toUInt32 31)).toInt32
def bcE (x : Int32) : Int32 := x + (x.toUInt32 >>> ((nI 16).toUInt32 &&& Int32.toUInt32 31)).toInt32
def bcI (x : Int32) : Int32 := bcE (bcD (bcC (bcB (bcA x)))) &&& nI 63
theorem bcI_pop : ∀ n, n < 1024 → bcI (nI n) = nI (pop n) := by decide +kernel
/-- what of its own bids a bidder may win: kind, figure, how many, prices together, how many items -/
abbrev mayP (kind fig held prices items : Nat) : Prop := (kind = 1 → held ≤ 1) ∧ (kind = 2 → held ≤ fig) ∧ (kind = 3 → prices ≤ 10 * fig) ∧ (kind = 4 → held ≤ 1 ∧ items ≤ fig) ∧ (kind = 5 → held ≤ fig ∧ held ≠ 1)
abbrev mayS (S : SaleN) (bits b : Nat) : Prop := mayP (S.kd b) (S.fg b) (pop (bits &&& S.ow b)) (prTo S.pr (bits &&& S.ow b) S.ca) (pop (itTo S.st (bits &&& S.ow b) S.ca))
abbrev allS (S : SaleN) (bits : Nat) : Prop := ∀ b, b < 5 → mayS S bits b
/-- the value of items that a set doesn't have, and that it has -/
def rsTo (rs : Nat → Nat) (items : Nat) : Nat → Nat
  | 0 => 0
  | i + 1 => rsTo rs items i + if items.testBit i = true then rs i else 0
theorem rsTo_le {rs : Nat → Nat} {items n : Nat} : ∀ m, m ≤ n → (∀ i, i < n → rs i ≤ 9) → rsTo rs items m ≤ 9 * m
  | 0, _, _ => Nat.le_refl _
  | m + 1, h, hp => by
    have h1 := rsTo_le (items := items) m (by omega) hp
    have h2 := hp m (by omega)
    unfold rsTo
    split <;> omega
theorem not_bit (b k : Nat) (hk : k < 31) : ((nI b ^^^ (-1)) >>> (nI k &&& 31)) &&& nI 1 = nI (b01 (¬ b.testBit k = true)) := by
  apply Int32.toBitVec_inj.1
  rw [Int32.toBitVec_and, Int32.toBitVec_shiftRight, Int32.toBitVec_xor]
  show (((BitVec.ofNat 32 b ^^^ (-1 : Int32).toBitVec)).sshiftRight ((nI k &&& 31).toBitVec.smod 32).toNat) &&& BitVec.ofNat 32 1 = BitVec.ofNat 32 (b01 (¬ b.testBit k = true))
  rw [n_cnt k (by omega)]
  apply BitVec.eq_of_getLsbD_eq
  intro i hi
  rw [BitVec.getLsbD_and, BitVec.getLsbD_sshiftRight]
  by_cases h0 : i = 0
  · subst h0
    have h1 : (BitVec.ofNat 32 b ^^^ (-1 : Int32).toBitVec).getLsbD (k + 0) = !b.testBit k := by
      rw [BitVec.getLsbD_xor, n_m1 _ (by omega), BitVec.getLsbD_ofNat]
      have h5 : k + 0 < 32 := by omega
      have h6 : ¬ 32 ≤ k := by omega
      simp [h6, h5]
    rw [h1]
    have h2 : k + 0 < 32 := by omega
    have h8 : ¬ 32 ≤ k := by omega
    have h9 : k < 32 := by omega
    cases hb : b.testBit k <;> simp [h9, h8, h2, b01]
  · have h3 : (BitVec.ofNat 32 1).getLsbD i = false := by
      rw [BitVec.getLsbD_ofNat]
      have h7 : Nat.testBit 1 i = false := Nat.testBit_lt_two_pow (Nat.one_lt_two_pow h0)
      simp [h7]
    rw [h3, Bool.and_false, BitVec.getLsbD_ofNat]
    have h4 : (b01 (¬ b.testBit k = true)).testBit i = false := by
      apply Nat.testBit_lt_two_pow
      exact Nat.lt_of_le_of_lt b01_le (Nat.one_lt_two_pow h0)
    rw [h4, Bool.and_false]
theorem ownTo_s {bd : Nat → Nat} {b k : Nat} : ownTo bd b (k + 1) = if bd k = b then ownTo bd b k ||| 1 <<< k else ownTo bd b k := rfl
theorem prTo_s {pr : Nat → Nat} {bits k : Nat} : prTo pr bits (k + 1) = prTo pr bits k + if bits.testBit k = true then pr k else 0 := rfl
theorem itTo_s {st : Nat → Nat} {bits k : Nat} : itTo st bits (k + 1) = if bits.testBit k = true then itTo st bits k ||| st k else itTo st bits k := rfl
theorem hdTo_s {st : Nat → Nat} {items k : Nat} : hdTo st items (k + 1) = if st k &&& items ≠ 0 then hdTo st items k ||| 1 <<< k else hdTo st items k := rfl
theorem rbTo_s {rs : Nat → Nat} {items k : Nat} : rbTo rs items (k + 1) = rbTo rs items k + if items.testBit k = true then 0 else rs k := rfl
theorem rsTo_s {rs : Nat → Nat} {items k : Nat} : rsTo rs items (k + 1) = rsTo rs items k + if items.testBit k = true then rs k else 0 := rfl
theorem bgTo_s {ow : Nat → Nat} {group k : Nat} : bgTo ow group (k + 1) = if group.testBit k = true then bgTo ow group k ||| ow k else bgTo ow group k := rfl
theorem popTo_s {n k : Nat} : popTo n (k + 1) = popTo n k + b01 (n.testBit k = true) := rfl
theorem pop_le (n : Nat) : pop n ≤ 10 := popTo_le n 10

