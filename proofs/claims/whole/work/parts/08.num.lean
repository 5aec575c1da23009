/-! ===== coded numbers: nI of a Nat, zI of an Int, b01 of a condition ===== -/
theorem n_and (a b : Nat) : nI a &&& nI b = nI (a &&& b) := by
  apply Int32.toBitVec_inj.1
  show BitVec.ofNat 32 a &&& BitVec.ofNat 32 b = BitVec.ofNat 32 (a &&& b)
  apply BitVec.eq_of_getLsbD_eq
  intro i hi
  simp [hi]
theorem n_or (a b : Nat) : nI a ||| nI b = nI (a ||| b) := by
  apply Int32.toBitVec_inj.1
  show BitVec.ofNat 32 a ||| BitVec.ofNat 32 b = BitVec.ofNat 32 (a ||| b)
  apply BitVec.eq_of_getLsbD_eq
  intro i hi
  simp [hi]
theorem n_xor (a b : Nat) : nI a ^^^ nI b = nI (a ^^^ b) := by
  apply Int32.toBitVec_inj.1
  show BitVec.ofNat 32 a ^^^ BitVec.ofNat 32 b = BitVec.ofNat 32 (a ^^^ b)
  apply BitVec.eq_of_getLsbD_eq
  intro i hi
  simp [hi]
/-- a and not b -/
def andn (a b : Nat) : Nat := a ^^^ (a &&& b)
theorem n_m1 : ∀ i, i < 32 → (-1 : Int32).toBitVec.getLsbD i = true := by decide +kernel
theorem n_andn (a b : Nat) : nI a &&& (nI b ^^^ (-1)) = nI (andn a b) := by
  apply Int32.toBitVec_inj.1
  rw [Int32.toBitVec_and, Int32.toBitVec_xor]
  show BitVec.ofNat 32 a &&& (BitVec.ofNat 32 b ^^^ (-1 : Int32).toBitVec) = BitVec.ofNat 32 (a ^^^ (a &&& b))
  apply BitVec.eq_of_getLsbD_eq
  intro i hi
  rw [BitVec.getLsbD_and, BitVec.getLsbD_xor, n_m1 i hi]
  simp only [BitVec.getLsbD_ofNat, hi, decide_true, Bool.true_and, Nat.testBit_xor, Nat.testBit_and]
  cases a.testBit i <;> cases b.testBit i <;> rfl
theorem n_cnt : ∀ n, n < 32 → ((nI n &&& 31).toBitVec.smod 32).toNat = n := by decide +kernel
theorem n_shl (a k : Nat) (hk : k < 32) : nI a <<< (nI k &&& 31) = nI (a <<< k) := by
  apply Int32.toBitVec_inj.1
  rw [Int32.toBitVec_shiftLeft]
  show BitVec.ofNat 32 a <<< ((nI k &&& 31).toBitVec.smod 32).toNat = BitVec.ofNat 32 (a <<< k)
  rw [n_cnt k hk]
  apply BitVec.eq_of_getLsbD_eq
  intro i hi
  rw [BitVec.getLsbD_shiftLeft]
  simp only [BitVec.getLsbD_ofNat, hi, decide_true, Bool.true_and, Nat.testBit_shiftLeft]
  by_cases h : i < k
  · have h3 : ¬ k ≤ i := by omega
    simp [h, h3]
  · have h2 : i - k < 32 := by omega
    have h3 : k ≤ i := by omega
    simp [h, h2, h3]
theorem n_shr (a k : Nat) (ha : a < 2147483648) (hk : k < 32) : nI a >>> (nI k &&& 31) = nI (a >>> k) := by
  apply Int32.toBitVec_inj.1
  rw [Int32.toBitVec_shiftRight]
  show (BitVec.ofNat 32 a).sshiftRight ((nI k &&& 31).toBitVec.smod 32).toNat = BitVec.ofNat 32 (a >>> k)
  rw [n_cnt k hk]
  have hm : (BitVec.ofNat 32 a).msb = false := by
    rw [BitVec.msb_eq_getLsbD_last]
    simp only [BitVec.getLsbD_ofNat]
    have : a.testBit 31 = false := Nat.testBit_lt_two_pow ha
    simp [this]
  rw [BitVec.sshiftRight_eq_of_msb_false hm]
  apply BitVec.eq_of_getLsbD_eq
  intro i hi
  rw [BitVec.getLsbD_ushiftRight]
  simp only [BitVec.getLsbD_ofNat, hi, decide_true, Bool.true_and, Nat.testBit_shiftRight]
  by_cases h : k + i < 32
  · simp [h]
  · have h2 : a.testBit (k + i) = false := Nat.testBit_lt_two_pow (Nat.lt_of_lt_of_le ha (by
      have : (2147483648 : Nat) = 2 ^ 31 := by decide
      rw [this]
      exact Nat.pow_le_pow_right (by decide) (by omega)))
    simp [h2]
def zI (z : Int) : Int32 := Int32.ofInt z
theorem zI_nat (n : Nat) : zI (n : Int) = nI n := by
  apply Int32.toBitVec_inj.1
  show BitVec.ofInt 32 (n : Int) = BitVec.ofNat 32 n
  exact BitVec.ofInt_natCast 32 n
theorem zI_bv (z : Int) : (zI z).toBitVec = BitVec.ofInt 32 z := rfl
theorem zI_add (a b : Int) : zI a + zI b = zI (a + b) := by
  apply Int32.toBitVec_inj.1
  show BitVec.ofInt 32 a + BitVec.ofInt 32 b = BitVec.ofInt 32 (a + b)
  exact (BitVec.ofInt_add a b).symm
theorem zI_neg (a : Int) : -zI a = zI (-a) := by
  apply Int32.toBitVec_inj.1
  show -BitVec.ofInt 32 a = BitVec.ofInt 32 (-a)
  exact BitVec.ofInt_neg.symm
theorem zI_mul (a b : Int) : zI a * zI b = zI (a * b) := by
  apply Int32.toBitVec_inj.1
  show BitVec.ofInt 32 a * BitVec.ofInt 32 b = BitVec.ofInt 32 (a * b)
  exact (BitVec.ofInt_mul a b).symm
theorem zI_sub (a b : Int) : zI a - zI b = zI (a - b) := by
  rw [Int32.sub_eq_add_neg, zI_neg, zI_add, Int.sub_eq_add_neg]
theorem zI_toInt {z : Int} (h1 : -2147483648 ≤ z) (h2 : z < 2147483648) : (zI z).toInt = z := by
  show (BitVec.ofInt 32 z).toInt = z
  rw [BitVec.toInt_ofInt]
  apply Int.bmod_eq_of_le <;> omega
theorem zI_lt {a b : Int} (ha : -2147483648 ≤ a ∧ a < 2147483648) (hb : -2147483648 ≤ b ∧ b < 2147483648) : zI a < zI b ↔ a < b := by
  rw [Int32.lt_iff_toInt_lt, zI_toInt ha.1 ha.2, zI_toInt hb.1 hb.2]
theorem zI_le {a b : Int} (ha : -2147483648 ≤ a ∧ a < 2147483648) (hb : -2147483648 ≤ b ∧ b < 2147483648) : zI a ≤ zI b ↔ a ≤ b := by
  rw [Int32.le_iff_toInt_le, zI_toInt ha.1 ha.2, zI_toInt hb.1 hb.2]
theorem zI_inj {a b : Int} (ha : -2147483648 ≤ a ∧ a < 2147483648) (hb : -2147483648 ≤ b ∧ b < 2147483648) : zI a = zI b ↔ a = b := by
  rw [← Int32.toInt_inj, zI_toInt ha.1 ha.2, zI_toInt hb.1 hb.2]
theorem n_mul (a b : Nat) : nI a * nI b = nI (a * b) := by
  rw [← zI_nat, ← zI_nat, zI_mul, ← zI_nat]
  rfl
theorem n_sub {a b : Nat} (h : b ≤ a) : nI a - nI b = nI (a - b) := by
  rw [← zI_nat, ← zI_nat, zI_sub, ← zI_nat]
  congr 1
  omega
theorem n_div {a b : Nat} (ha : a < 2147483648) (hb : b < 2147483648) : nI a / nI b = nI (a / b) := by
  apply Int32.toInt_inj.mp
  have h1 : a / b < 2147483648 := Nat.lt_of_le_of_lt (Nat.div_le_self a b) ha
  rw [Int32.toInt_div, nI_toInt ha, nI_toInt hb, nI_toInt h1]
  have h2 : (a : Int).tdiv (b : Int) = ((a / b : Nat) : Int) := rfl
  rw [h2]
  clear h2
  generalize a / b = q at h1 ⊢
  apply Int.bmod_eq_of_le <;> omega
theorem n_rem {a b : Nat} (ha : a < 2147483648) (hb : b < 2147483648) : nI a - nI a / nI b * nI b = nI (a % b) := by
  have h1 : a / b * b ≤ a := Nat.div_mul_le_self a b
  rw [n_div ha hb, n_mul, n_sub h1]
  congr 1
  have := Nat.div_add_mod a b
  rw [Nat.mul_comm] at this
  omega
def b01 (c : Prop) [Decidable c] : Nat := if c then 1 else 0
theorem b01_t {c : Prop} [Decidable c] (h : c) : b01 c = 1 := if_pos h
theorem b01_f {c : Prop} [Decidable c] (h : ¬ c) : b01 c = 0 := if_neg h
theorem b01_le {c : Prop} [Decidable c] : b01 c ≤ 1 := by unfold b01; split <;> omega
theorem b01_0 {c : Prop} [Decidable c] : nI (b01 c) = 0 ↔ ¬ c := by
  by_cases h : c
  · rw [b01_t h]; simp only [h, not_true_eq_false, iff_false]; decide
  · rw [b01_f h]; simp only [h, not_false_eq_true, iff_true]; rfl
theorem b01_nar {c : Prop} [Decidable c] : narrow .boolean (.int (nI (b01 c))) = .int (nI (b01 c)) := by
  by_cases h : c
  · rw [b01_t h]; rfl
  · rw [b01_f h]; rfl
theorem b01_c {c d : Prop} [Decidable c] [Decidable d] (h : c ↔ d) : b01 c = b01 d := by
  by_cases hc : c
  · rw [b01_t hc, b01_t (h.mp hc)]
  · rw [b01_f hc, b01_f (fun q => hc (h.mpr q))]
/-- an array's numbers -/
def aI (f : Nat → Nat) : Nat → Int32 := fun k => nI (f k)
def aZ (f : Nat → Int) : Nat → Int32 := fun k => zI (f k)
def up {α : Type} (f : Nat → α) (k : Nat) (v : α) : Nat → α := fun j => if j = k then v else f j
theorem up_at {α : Type} (f : Nat → α) (k : Nat) (v : α) : up f k v k = v := if_pos rfl
theorem up_ne {α : Type} {f : Nat → α} {k j : Nat} {v : α} (h : j ≠ k) : up f k v j = f j := if_neg h
theorem aI_up (f : Nat → Nat) (k v : Nat) : upd (aI f) k (nI v) = aI (up f k v) := by
  funext j
  unfold upd aI up
  by_cases h : j = k <;> simp [h]
theorem aZ_up (f : Nat → Int) (k : Nat) (v : Int) : upd (aZ f) k (zI v) = aZ (up f k v) := by
  funext j
  unfold upd aZ up
  by_cases h : j = k <;> simp [h]
section EVN
variable {l : Launch} {E : XE} {Y : MI} {d mc ms : Nat} {w0 : AW} {Po : Option Value → AW → Prop} {nc ns pc : Nat} {lv : AL} {st : List Value} {w : AW}
theorem ev_top {x y : Int32} (h : x = y) (k : Ev l E Y d mc ms w0 Po nc ns pc lv (.int y :: st) w) : Ev l E Y d mc ms w0 Po nc ns pc lv (.int x :: st) w := by rw [h]; exact k
theorem ev_top2 {v : Value} {x y : Int32} (h : x = y) (k : Ev l E Y d mc ms w0 Po nc ns pc lv (v :: .int y :: st) w) : Ev l E Y d mc ms w0 Po nc ns pc lv (v :: .int x :: st) w := by rw [h]; exact k
theorem ev_pick {lv' : AL} (h : lv'.map (fun q => xG lv q.1) = lv'.map (fun q => some q.2)) (k : Ev l E Y d mc ms w0 Po nc ns pc lv' st w) : Ev l E Y d mc ms w0 Po nc ns pc lv st w := by
  refine ev_loc (fun q hq => ?_) k
  obtain ⟨i, hi⟩ := List.getElem?_of_mem hq
  have h1 := congrArg (fun t => t[i]?) h
  simp only [List.getElem?_map, hi, Option.map_some, Option.some.injEq] at h1
  exact h1

theorem ev_iadd_n {a b : Nat} (hd : decode Y.2.1 pc = .ok (.iadd, 1)) (k : Ev l E Y d mc ms w0 Po nc ns (pc + 1) lv (.int (nI (a + b)) :: st) w) : Ev l E Y d mc ms w0 Po nc ns pc lv (.int (nI b) :: .int (nI a) :: st) w := by
  refine ev_b (snd_iadd hd) rfl ?_
  show Ev l E Y d mc ms w0 Po nc ns (pc + 1) lv (.int _ :: st) w
  refine ev_top (nI_add a b) k
theorem ev_isub_n {a b : Nat} (h : b ≤ a) (hd : decode Y.2.1 pc = .ok (.isub, 1)) (k : Ev l E Y d mc ms w0 Po nc ns (pc + 1) lv (.int (nI (a - b)) :: st) w) : Ev l E Y d mc ms w0 Po nc ns pc lv (.int (nI b) :: .int (nI a) :: st) w := by
  refine ev_b (snd_isub hd) rfl ?_
  show Ev l E Y d mc ms w0 Po nc ns (pc + 1) lv (.int _ :: st) w
  refine ev_top (n_sub h) k
theorem ev_imul_n {a b : Nat} (hd : decode Y.2.1 pc = .ok (.imul, 1)) (k : Ev l E Y d mc ms w0 Po nc ns (pc + 1) lv (.int (nI (a * b)) :: st) w) : Ev l E Y d mc ms w0 Po nc ns pc lv (.int (nI b) :: .int (nI a) :: st) w := by
  refine ev_b (snd_imul hd) rfl ?_
  show Ev l E Y d mc ms w0 Po nc ns (pc + 1) lv (.int _ :: st) w
  refine ev_top (n_mul a b) k
theorem ev_iand_n {a b : Nat} (hd : decode Y.2.1 pc = .ok (.iand, 1)) (k : Ev l E Y d mc ms w0 Po nc ns (pc + 1) lv (.int (nI (a &&& b)) :: st) w) : Ev l E Y d mc ms w0 Po nc ns pc lv (.int (nI b) :: .int (nI a) :: st) w := by
  refine ev_b (snd_iand hd) rfl ?_
  show Ev l E Y d mc ms w0 Po nc ns (pc + 1) lv (.int _ :: st) w
  refine ev_top (n_and a b) k
theorem ev_ior_n {a b : Nat} (hd : decode Y.2.1 pc = .ok (.ior, 1)) (k : Ev l E Y d mc ms w0 Po nc ns (pc + 1) lv (.int (nI (a ||| b)) :: st) w) : Ev l E Y d mc ms w0 Po nc ns pc lv (.int (nI b) :: .int (nI a) :: st) w := by
  refine ev_b (snd_ior hd) rfl ?_
  show Ev l E Y d mc ms w0 Po nc ns (pc + 1) lv (.int _ :: st) w
  refine ev_top (n_or a b) k
theorem ev_ixor_n {a b : Nat} (hd : decode Y.2.1 pc = .ok (.ixor, 1)) (k : Ev l E Y d mc ms w0 Po nc ns (pc + 1) lv (.int (nI (a ^^^ b)) :: st) w) : Ev l E Y d mc ms w0 Po nc ns pc lv (.int (nI b) :: .int (nI a) :: st) w := by
  refine ev_b (snd_ixor hd) rfl ?_
  show Ev l E Y d mc ms w0 Po nc ns (pc + 1) lv (.int _ :: st) w
  refine ev_top (n_xor a b) k
theorem ev_ishl_n {a b : Nat} (h : b < 32) (hd : decode Y.2.1 pc = .ok (.ishl, 1)) (k : Ev l E Y d mc ms w0 Po nc ns (pc + 1) lv (.int (nI (a <<< b)) :: st) w) : Ev l E Y d mc ms w0 Po nc ns pc lv (.int (nI b) :: .int (nI a) :: st) w := by
  refine ev_b (snd_ishl hd) rfl ?_
  show Ev l E Y d mc ms w0 Po nc ns (pc + 1) lv (.int _ :: st) w
  refine ev_top (n_shl a b h) k
theorem ev_ishr_n {a b : Nat} (h2 : a < 2147483648) (h : b < 32) (hd : decode Y.2.1 pc = .ok (.ishr, 1)) (k : Ev l E Y d mc ms w0 Po nc ns (pc + 1) lv (.int (nI (a >>> b)) :: st) w) : Ev l E Y d mc ms w0 Po nc ns pc lv (.int (nI b) :: .int (nI a) :: st) w := by
  refine ev_b (snd_ishr hd) rfl ?_
  show Ev l E Y d mc ms w0 Po nc ns (pc + 1) lv (.int _ :: st) w
  refine ev_top (n_shr a b h2 h) k
theorem ev_iandn_n {a b : Nat} (hd : decode Y.2.1 pc = .ok (.iand, 1)) (k : Ev l E Y d mc ms w0 Po nc ns (pc + 1) lv (.int (nI (andn a b)) :: st) w) : Ev l E Y d mc ms w0 Po nc ns pc lv (.int (nI b ^^^ (-1)) :: .int (nI a) :: st) w := by
  refine ev_b (snd_iand hd) rfl ?_
  show Ev l E Y d mc ms w0 Po nc ns (pc + 1) lv (.int _ :: st) w
  refine ev_top (n_andn a b) k
theorem ev_iadd_z {a b : Int} (hd : decode Y.2.1 pc = .ok (.iadd, 1)) (k : Ev l E Y d mc ms w0 Po nc ns (pc + 1) lv (.int (zI (a + b)) :: st) w) : Ev l E Y d mc ms w0 Po nc ns pc lv (.int (zI b) :: .int (zI a) :: st) w := by
  refine ev_b (snd_iadd hd) rfl ?_
  show Ev l E Y d mc ms w0 Po nc ns (pc + 1) lv (.int _ :: st) w
  refine ev_top (zI_add a b) k
theorem ev_isub_z {a b : Int} (hd : decode Y.2.1 pc = .ok (.isub, 1)) (k : Ev l E Y d mc ms w0 Po nc ns (pc + 1) lv (.int (zI (a - b)) :: st) w) : Ev l E Y d mc ms w0 Po nc ns pc lv (.int (zI b) :: .int (zI a) :: st) w := by
  refine ev_b (snd_isub hd) rfl ?_
  show Ev l E Y d mc ms w0 Po nc ns (pc + 1) lv (.int _ :: st) w
  refine ev_top (zI_sub a b) k
theorem ev_imul_z {a b : Int} (hd : decode Y.2.1 pc = .ok (.imul, 1)) (k : Ev l E Y d mc ms w0 Po nc ns (pc + 1) lv (.int (zI (a * b)) :: st) w) : Ev l E Y d mc ms w0 Po nc ns pc lv (.int (zI b) :: .int (zI a) :: st) w := by
  refine ev_b (snd_imul hd) rfl ?_
  show Ev l E Y d mc ms w0 Po nc ns (pc + 1) lv (.int _ :: st) w
  refine ev_top (zI_mul a b) k
theorem ev_ineg_z {a : Int} (hd : decode Y.2.1 pc = .ok (.ineg, 1)) (k : Ev l E Y d mc ms w0 Po nc ns (pc + 1) lv (.int (zI (-a)) :: st) w) : Ev l E Y d mc ms w0 Po nc ns pc lv (.int (zI a) :: st) w := by
  refine ev_b (snd_ineg hd) rfl ?_
  show Ev l E Y d mc ms w0 Po nc ns (pc + 1) lv (.int _ :: st) w
  exact ev_top (zI_neg a) k
theorem ev_idiv_n {a b : Nat} (ha : a < 2147483648) (hb : b < 2147483648) (h0 : 0 < b) (hd : decode Y.2.1 pc = .ok (.idiv, 1)) (k : Ev l E Y d mc ms w0 Po nc ns (pc + 1) lv (.int (nI (a / b)) :: st) w) : Ev l E Y d mc ms w0 Po nc ns pc lv (.int (nI b) :: .int (nI a) :: st) w :=
  ev_idiv hd (nI_ne0 h0 hb) (ev_top (n_div ha hb) k)
theorem ev_irem_n {a b : Nat} (ha : a < 2147483648) (hb : b < 2147483648) (h0 : 0 < b) (hd : decode Y.2.1 pc = .ok (.irem, 1)) (k : Ev l E Y d mc ms w0 Po nc ns (pc + 1) lv (.int (nI (a % b)) :: st) w) : Ev l E Y d mc ms w0 Po nc ns pc lv (.int (nI b) :: .int (nI a) :: st) w :=
  ev_irem hd (nI_ne0 h0 hb) (ev_top (n_rem ha hb) k)
/-- a counter, one more (or k more) -/
theorem ev_iinc_n {i x v : Nat} (hd : decode Y.2.1 pc = .ok (.iinc i v, 3)) (hx : xG lv i = some (.int (nI x))) (hn : i < Y.2.2.1) (k : Ev l E Y d mc ms w0 Po nc ns (pc + 3) (xP1 lv i (.int (nI (x + v)))) st w) : Ev l E Y d mc ms w0 Po nc ns pc lv st w := by
  refine ev_b (snd_iinc (v := nI v) hd (zI_nat v) hn) (lv' := xP1 lv i (.int (nI x + nI v))) (st' := st) (w2 := w) (by unfold x_iinc; simp only [hx]) ?_
  rw [nI_add]
  exact k
theorem ev_iinc_z {i : Nat} {x v : Int} (hd : decode Y.2.1 pc = .ok (.iinc i v, 3)) (hx : xG lv i = some (.int (zI x))) (hn : i < Y.2.2.1) (k : Ev l E Y d mc ms w0 Po nc ns (pc + 3) (xP1 lv i (.int (zI (x + v)))) st w) : Ev l E Y d mc ms w0 Po nc ns pc lv st w := by
  refine ev_b (snd_iinc (v := zI v) hd rfl hn) (lv' := xP1 lv i (.int (zI x + zI v))) (st' := st) (w2 := w) (by unfold x_iinc; simp only [hx]) ?_
  rw [zI_add]
  exact k
/-- one less: a number above 0 -/
theorem ev_idec_n {i x : Nat} (hd : decode Y.2.1 pc = .ok (.iinc i (-1), 3)) (hx : xG lv i = some (.int (nI x))) (hn : i < Y.2.2.1) (h0 : 0 < x) (k : Ev l E Y d mc ms w0 Po nc ns (pc + 3) (xP1 lv i (.int (nI (x - 1)))) st w) : Ev l E Y d mc ms w0 Po nc ns pc lv st w := by
  refine ev_b (snd_iinc (v := zI (-1)) hd rfl hn) (lv' := xP1 lv i (.int (nI x + zI (-1)))) (st' := st) (w2 := w) (by unfold x_iinc; simp only [hx]) ?_
  rw [← zI_nat, zI_add, show ((x : Int) + -1) = ((x - 1 : Nat) : Int) by omega, zI_nat]
  exact k

theorem ev_icmp_eq_n {a b : Nat} {off : Int} {tgt : Nat} (ha : a < 2147483648) (hb : b < 2147483648) (hd : decode Y.2.1 pc = .ok (.if_icmp .eq off, 3)) (ht : (pc : Int) + off = (tgt : Int)) (kt : a = b → Ev l E Y d mc ms w0 Po nc ns tgt lv st w) (kf : ¬ a = b → Ev l E Y d mc ms w0 Po nc ns (pc + 3) lv st w) : Ev l E Y d mc ms w0 Po nc ns pc lv (.int (nI b) :: .int (nI a) :: st) w := by
  refine ev_icmp_eq hd ht (fun q => kt ?_) (fun q => kf ?_) <;> first | exact (nI_eq ha hb).mp q | exact fun z => q ((nI_eq ha hb).mpr z)
theorem ev_icmp_eq_z {a b : Int} {off : Int} {tgt : Nat} (ha : -2147483648 ≤ a ∧ a < 2147483648) (hb : -2147483648 ≤ b ∧ b < 2147483648) (hd : decode Y.2.1 pc = .ok (.if_icmp .eq off, 3)) (ht : (pc : Int) + off = (tgt : Int)) (kt : a = b → Ev l E Y d mc ms w0 Po nc ns tgt lv st w) (kf : ¬ a = b → Ev l E Y d mc ms w0 Po nc ns (pc + 3) lv st w) : Ev l E Y d mc ms w0 Po nc ns pc lv (.int (zI b) :: .int (zI a) :: st) w := by
  refine ev_icmp_eq hd ht (fun q => kt ?_) (fun q => kf ?_) <;> first | exact (zI_inj ha hb).mp q | exact fun z => q ((zI_inj ha hb).mpr z)
theorem ev_if_eq_n {a : Nat} {off : Int} {tgt : Nat} (ha : a < 2147483648) (hd : decode Y.2.1 pc = .ok (.ifCond .eq off, 3)) (ht : (pc : Int) + off = (tgt : Int)) (kt : a = 0 → Ev l E Y d mc ms w0 Po nc ns tgt lv st w) (kf : ¬ a = 0 → Ev l E Y d mc ms w0 Po nc ns (pc + 3) lv st w) : Ev l E Y d mc ms w0 Po nc ns pc lv (.int (nI a) :: st) w := by
  refine ev_if_eq hd ht (fun q => kt ?_) (fun q => kf ?_) <;> first | exact (nI_eq ha (show (0 : Nat) < 2147483648 by decide)).mp q | exact fun z => q ((nI_eq ha (show (0 : Nat) < 2147483648 by decide)).mpr z)
theorem ev_if_eq_z {a : Int} {off : Int} {tgt : Nat} (ha : -2147483648 ≤ a ∧ a < 2147483648) (hd : decode Y.2.1 pc = .ok (.ifCond .eq off, 3)) (ht : (pc : Int) + off = (tgt : Int)) (kt : a = 0 → Ev l E Y d mc ms w0 Po nc ns tgt lv st w) (kf : ¬ a = 0 → Ev l E Y d mc ms w0 Po nc ns (pc + 3) lv st w) : Ev l E Y d mc ms w0 Po nc ns pc lv (.int (zI a) :: st) w := by
  refine ev_if_eq hd ht (fun q => kt ?_) (fun q => kf ?_) <;> first | exact (zI_inj ha (show (-2147483648 : Int) ≤ 0 ∧ (0 : Int) < 2147483648 by decide)).mp q | exact fun z => q ((zI_inj ha (show (-2147483648 : Int) ≤ 0 ∧ (0 : Int) < 2147483648 by decide)).mpr z)
theorem ev_icmp_ne_n {a b : Nat} {off : Int} {tgt : Nat} (ha : a < 2147483648) (hb : b < 2147483648) (hd : decode Y.2.1 pc = .ok (.if_icmp .ne off, 3)) (ht : (pc : Int) + off = (tgt : Int)) (kt : ¬ a = b → Ev l E Y d mc ms w0 Po nc ns tgt lv st w) (kf : a = b → Ev l E Y d mc ms w0 Po nc ns (pc + 3) lv st w) : Ev l E Y d mc ms w0 Po nc ns pc lv (.int (nI b) :: .int (nI a) :: st) w := by
  refine ev_icmp_ne hd ht (fun q => kt ?_) (fun q => kf ?_) <;> first | exact (nI_eq ha hb).mp q | exact fun z => q ((nI_eq ha hb).mpr z)
theorem ev_icmp_ne_z {a b : Int} {off : Int} {tgt : Nat} (ha : -2147483648 ≤ a ∧ a < 2147483648) (hb : -2147483648 ≤ b ∧ b < 2147483648) (hd : decode Y.2.1 pc = .ok (.if_icmp .ne off, 3)) (ht : (pc : Int) + off = (tgt : Int)) (kt : ¬ a = b → Ev l E Y d mc ms w0 Po nc ns tgt lv st w) (kf : a = b → Ev l E Y d mc ms w0 Po nc ns (pc + 3) lv st w) : Ev l E Y d mc ms w0 Po nc ns pc lv (.int (zI b) :: .int (zI a) :: st) w := by
  refine ev_icmp_ne hd ht (fun q => kt ?_) (fun q => kf ?_) <;> first | exact (zI_inj ha hb).mp q | exact fun z => q ((zI_inj ha hb).mpr z)
theorem ev_if_ne_n {a : Nat} {off : Int} {tgt : Nat} (ha : a < 2147483648) (hd : decode Y.2.1 pc = .ok (.ifCond .ne off, 3)) (ht : (pc : Int) + off = (tgt : Int)) (kt : ¬ a = 0 → Ev l E Y d mc ms w0 Po nc ns tgt lv st w) (kf : a = 0 → Ev l E Y d mc ms w0 Po nc ns (pc + 3) lv st w) : Ev l E Y d mc ms w0 Po nc ns pc lv (.int (nI a) :: st) w := by
  refine ev_if_ne hd ht (fun q => kt ?_) (fun q => kf ?_) <;> first | exact (nI_eq ha (show (0 : Nat) < 2147483648 by decide)).mp q | exact fun z => q ((nI_eq ha (show (0 : Nat) < 2147483648 by decide)).mpr z)
theorem ev_if_ne_z {a : Int} {off : Int} {tgt : Nat} (ha : -2147483648 ≤ a ∧ a < 2147483648) (hd : decode Y.2.1 pc = .ok (.ifCond .ne off, 3)) (ht : (pc : Int) + off = (tgt : Int)) (kt : ¬ a = 0 → Ev l E Y d mc ms w0 Po nc ns tgt lv st w) (kf : a = 0 → Ev l E Y d mc ms w0 Po nc ns (pc + 3) lv st w) : Ev l E Y d mc ms w0 Po nc ns pc lv (.int (zI a) :: st) w := by
  refine ev_if_ne hd ht (fun q => kt ?_) (fun q => kf ?_) <;> first | exact (zI_inj ha (show (-2147483648 : Int) ≤ 0 ∧ (0 : Int) < 2147483648 by decide)).mp q | exact fun z => q ((zI_inj ha (show (-2147483648 : Int) ≤ 0 ∧ (0 : Int) < 2147483648 by decide)).mpr z)
theorem ev_icmp_lt_n {a b : Nat} {off : Int} {tgt : Nat} (ha : a < 2147483648) (hb : b < 2147483648) (hd : decode Y.2.1 pc = .ok (.if_icmp .lt off, 3)) (ht : (pc : Int) + off = (tgt : Int)) (kt : a < b → Ev l E Y d mc ms w0 Po nc ns tgt lv st w) (kf : ¬ a < b → Ev l E Y d mc ms w0 Po nc ns (pc + 3) lv st w) : Ev l E Y d mc ms w0 Po nc ns pc lv (.int (nI b) :: .int (nI a) :: st) w := by
  refine ev_icmp_lt hd ht (fun q => kt ?_) (fun q => kf ?_) <;> first | exact (nI_ltI ha hb).mp q | exact fun z => q ((nI_ltI ha hb).mpr z)
theorem ev_icmp_lt_z {a b : Int} {off : Int} {tgt : Nat} (ha : -2147483648 ≤ a ∧ a < 2147483648) (hb : -2147483648 ≤ b ∧ b < 2147483648) (hd : decode Y.2.1 pc = .ok (.if_icmp .lt off, 3)) (ht : (pc : Int) + off = (tgt : Int)) (kt : a < b → Ev l E Y d mc ms w0 Po nc ns tgt lv st w) (kf : ¬ a < b → Ev l E Y d mc ms w0 Po nc ns (pc + 3) lv st w) : Ev l E Y d mc ms w0 Po nc ns pc lv (.int (zI b) :: .int (zI a) :: st) w := by
  refine ev_icmp_lt hd ht (fun q => kt ?_) (fun q => kf ?_) <;> first | exact (zI_lt ha hb).mp q | exact fun z => q ((zI_lt ha hb).mpr z)
theorem ev_if_lt_n {a : Nat} {off : Int} {tgt : Nat} (ha : a < 2147483648) (hd : decode Y.2.1 pc = .ok (.ifCond .lt off, 3)) (ht : (pc : Int) + off = (tgt : Int)) (kt : a < 0 → Ev l E Y d mc ms w0 Po nc ns tgt lv st w) (kf : ¬ a < 0 → Ev l E Y d mc ms w0 Po nc ns (pc + 3) lv st w) : Ev l E Y d mc ms w0 Po nc ns pc lv (.int (nI a) :: st) w := by
  refine ev_if_lt hd ht (fun q => kt ?_) (fun q => kf ?_) <;> first | exact (nI_ltI ha (show (0 : Nat) < 2147483648 by decide)).mp q | exact fun z => q ((nI_ltI ha (show (0 : Nat) < 2147483648 by decide)).mpr z)
theorem ev_if_lt_z {a : Int} {off : Int} {tgt : Nat} (ha : -2147483648 ≤ a ∧ a < 2147483648) (hd : decode Y.2.1 pc = .ok (.ifCond .lt off, 3)) (ht : (pc : Int) + off = (tgt : Int)) (kt : a < 0 → Ev l E Y d mc ms w0 Po nc ns tgt lv st w) (kf : ¬ a < 0 → Ev l E Y d mc ms w0 Po nc ns (pc + 3) lv st w) : Ev l E Y d mc ms w0 Po nc ns pc lv (.int (zI a) :: st) w := by
  refine ev_if_lt hd ht (fun q => kt ?_) (fun q => kf ?_) <;> first | exact (zI_lt ha (show (-2147483648 : Int) ≤ 0 ∧ (0 : Int) < 2147483648 by decide)).mp q | exact fun z => q ((zI_lt ha (show (-2147483648 : Int) ≤ 0 ∧ (0 : Int) < 2147483648 by decide)).mpr z)
theorem ev_icmp_ge_n {a b : Nat} {off : Int} {tgt : Nat} (ha : a < 2147483648) (hb : b < 2147483648) (hd : decode Y.2.1 pc = .ok (.if_icmp .ge off, 3)) (ht : (pc : Int) + off = (tgt : Int)) (kt : b ≤ a → Ev l E Y d mc ms w0 Po nc ns tgt lv st w) (kf : ¬ b ≤ a → Ev l E Y d mc ms w0 Po nc ns (pc + 3) lv st w) : Ev l E Y d mc ms w0 Po nc ns pc lv (.int (nI b) :: .int (nI a) :: st) w := by
  refine ev_icmp_ge hd ht (fun q => kt ?_) (fun q => kf ?_) <;> first | exact (nI_leI hb ha).mp q | exact fun z => q ((nI_leI hb ha).mpr z)
theorem ev_icmp_ge_z {a b : Int} {off : Int} {tgt : Nat} (ha : -2147483648 ≤ a ∧ a < 2147483648) (hb : -2147483648 ≤ b ∧ b < 2147483648) (hd : decode Y.2.1 pc = .ok (.if_icmp .ge off, 3)) (ht : (pc : Int) + off = (tgt : Int)) (kt : b ≤ a → Ev l E Y d mc ms w0 Po nc ns tgt lv st w) (kf : ¬ b ≤ a → Ev l E Y d mc ms w0 Po nc ns (pc + 3) lv st w) : Ev l E Y d mc ms w0 Po nc ns pc lv (.int (zI b) :: .int (zI a) :: st) w := by
  refine ev_icmp_ge hd ht (fun q => kt ?_) (fun q => kf ?_) <;> first | exact (zI_le hb ha).mp q | exact fun z => q ((zI_le hb ha).mpr z)
theorem ev_if_ge_n {a : Nat} {off : Int} {tgt : Nat} (ha : a < 2147483648) (hd : decode Y.2.1 pc = .ok (.ifCond .ge off, 3)) (ht : (pc : Int) + off = (tgt : Int)) (kt : 0 ≤ a → Ev l E Y d mc ms w0 Po nc ns tgt lv st w) (kf : ¬ 0 ≤ a → Ev l E Y d mc ms w0 Po nc ns (pc + 3) lv st w) : Ev l E Y d mc ms w0 Po nc ns pc lv (.int (nI a) :: st) w := by
  refine ev_if_ge hd ht (fun q => kt ?_) (fun q => kf ?_) <;> first | exact (nI_leI (show (0 : Nat) < 2147483648 by decide) ha).mp q | exact fun z => q ((nI_leI (show (0 : Nat) < 2147483648 by decide) ha).mpr z)
theorem ev_if_ge_z {a : Int} {off : Int} {tgt : Nat} (ha : -2147483648 ≤ a ∧ a < 2147483648) (hd : decode Y.2.1 pc = .ok (.ifCond .ge off, 3)) (ht : (pc : Int) + off = (tgt : Int)) (kt : 0 ≤ a → Ev l E Y d mc ms w0 Po nc ns tgt lv st w) (kf : ¬ 0 ≤ a → Ev l E Y d mc ms w0 Po nc ns (pc + 3) lv st w) : Ev l E Y d mc ms w0 Po nc ns pc lv (.int (zI a) :: st) w := by
  refine ev_if_ge hd ht (fun q => kt ?_) (fun q => kf ?_) <;> first | exact (zI_le (show (-2147483648 : Int) ≤ 0 ∧ (0 : Int) < 2147483648 by decide) ha).mp q | exact fun z => q ((zI_le (show (-2147483648 : Int) ≤ 0 ∧ (0 : Int) < 2147483648 by decide) ha).mpr z)
theorem ev_icmp_gt_n {a b : Nat} {off : Int} {tgt : Nat} (ha : a < 2147483648) (hb : b < 2147483648) (hd : decode Y.2.1 pc = .ok (.if_icmp .gt off, 3)) (ht : (pc : Int) + off = (tgt : Int)) (kt : b < a → Ev l E Y d mc ms w0 Po nc ns tgt lv st w) (kf : ¬ b < a → Ev l E Y d mc ms w0 Po nc ns (pc + 3) lv st w) : Ev l E Y d mc ms w0 Po nc ns pc lv (.int (nI b) :: .int (nI a) :: st) w := by
  refine ev_icmp_gt hd ht (fun q => kt ?_) (fun q => kf ?_) <;> first | exact (nI_ltI hb ha).mp q | exact fun z => q ((nI_ltI hb ha).mpr z)
theorem ev_icmp_gt_z {a b : Int} {off : Int} {tgt : Nat} (ha : -2147483648 ≤ a ∧ a < 2147483648) (hb : -2147483648 ≤ b ∧ b < 2147483648) (hd : decode Y.2.1 pc = .ok (.if_icmp .gt off, 3)) (ht : (pc : Int) + off = (tgt : Int)) (kt : b < a → Ev l E Y d mc ms w0 Po nc ns tgt lv st w) (kf : ¬ b < a → Ev l E Y d mc ms w0 Po nc ns (pc + 3) lv st w) : Ev l E Y d mc ms w0 Po nc ns pc lv (.int (zI b) :: .int (zI a) :: st) w := by
  refine ev_icmp_gt hd ht (fun q => kt ?_) (fun q => kf ?_) <;> first | exact (zI_lt hb ha).mp q | exact fun z => q ((zI_lt hb ha).mpr z)
theorem ev_if_gt_n {a : Nat} {off : Int} {tgt : Nat} (ha : a < 2147483648) (hd : decode Y.2.1 pc = .ok (.ifCond .gt off, 3)) (ht : (pc : Int) + off = (tgt : Int)) (kt : 0 < a → Ev l E Y d mc ms w0 Po nc ns tgt lv st w) (kf : ¬ 0 < a → Ev l E Y d mc ms w0 Po nc ns (pc + 3) lv st w) : Ev l E Y d mc ms w0 Po nc ns pc lv (.int (nI a) :: st) w := by
  refine ev_if_gt hd ht (fun q => kt ?_) (fun q => kf ?_) <;> first | exact (nI_ltI (show (0 : Nat) < 2147483648 by decide) ha).mp q | exact fun z => q ((nI_ltI (show (0 : Nat) < 2147483648 by decide) ha).mpr z)
theorem ev_if_gt_z {a : Int} {off : Int} {tgt : Nat} (ha : -2147483648 ≤ a ∧ a < 2147483648) (hd : decode Y.2.1 pc = .ok (.ifCond .gt off, 3)) (ht : (pc : Int) + off = (tgt : Int)) (kt : 0 < a → Ev l E Y d mc ms w0 Po nc ns tgt lv st w) (kf : ¬ 0 < a → Ev l E Y d mc ms w0 Po nc ns (pc + 3) lv st w) : Ev l E Y d mc ms w0 Po nc ns pc lv (.int (zI a) :: st) w := by
  refine ev_if_gt hd ht (fun q => kt ?_) (fun q => kf ?_) <;> first | exact (zI_lt (show (-2147483648 : Int) ≤ 0 ∧ (0 : Int) < 2147483648 by decide) ha).mp q | exact fun z => q ((zI_lt (show (-2147483648 : Int) ≤ 0 ∧ (0 : Int) < 2147483648 by decide) ha).mpr z)
theorem ev_icmp_le_n {a b : Nat} {off : Int} {tgt : Nat} (ha : a < 2147483648) (hb : b < 2147483648) (hd : decode Y.2.1 pc = .ok (.if_icmp .le off, 3)) (ht : (pc : Int) + off = (tgt : Int)) (kt : a ≤ b → Ev l E Y d mc ms w0 Po nc ns tgt lv st w) (kf : ¬ a ≤ b → Ev l E Y d mc ms w0 Po nc ns (pc + 3) lv st w) : Ev l E Y d mc ms w0 Po nc ns pc lv (.int (nI b) :: .int (nI a) :: st) w := by
  refine ev_icmp_le hd ht (fun q => kt ?_) (fun q => kf ?_) <;> first | exact (nI_leI ha hb).mp q | exact fun z => q ((nI_leI ha hb).mpr z)
theorem ev_icmp_le_z {a b : Int} {off : Int} {tgt : Nat} (ha : -2147483648 ≤ a ∧ a < 2147483648) (hb : -2147483648 ≤ b ∧ b < 2147483648) (hd : decode Y.2.1 pc = .ok (.if_icmp .le off, 3)) (ht : (pc : Int) + off = (tgt : Int)) (kt : a ≤ b → Ev l E Y d mc ms w0 Po nc ns tgt lv st w) (kf : ¬ a ≤ b → Ev l E Y d mc ms w0 Po nc ns (pc + 3) lv st w) : Ev l E Y d mc ms w0 Po nc ns pc lv (.int (zI b) :: .int (zI a) :: st) w := by
  refine ev_icmp_le hd ht (fun q => kt ?_) (fun q => kf ?_) <;> first | exact (zI_le ha hb).mp q | exact fun z => q ((zI_le ha hb).mpr z)
theorem ev_if_le_n {a : Nat} {off : Int} {tgt : Nat} (ha : a < 2147483648) (hd : decode Y.2.1 pc = .ok (.ifCond .le off, 3)) (ht : (pc : Int) + off = (tgt : Int)) (kt : a ≤ 0 → Ev l E Y d mc ms w0 Po nc ns tgt lv st w) (kf : ¬ a ≤ 0 → Ev l E Y d mc ms w0 Po nc ns (pc + 3) lv st w) : Ev l E Y d mc ms w0 Po nc ns pc lv (.int (nI a) :: st) w := by
  refine ev_if_le hd ht (fun q => kt ?_) (fun q => kf ?_) <;> first | exact (nI_leI ha (show (0 : Nat) < 2147483648 by decide)).mp q | exact fun z => q ((nI_leI ha (show (0 : Nat) < 2147483648 by decide)).mpr z)
theorem ev_if_le_z {a : Int} {off : Int} {tgt : Nat} (ha : -2147483648 ≤ a ∧ a < 2147483648) (hd : decode Y.2.1 pc = .ok (.ifCond .le off, 3)) (ht : (pc : Int) + off = (tgt : Int)) (kt : a ≤ 0 → Ev l E Y d mc ms w0 Po nc ns tgt lv st w) (kf : ¬ a ≤ 0 → Ev l E Y d mc ms w0 Po nc ns (pc + 3) lv st w) : Ev l E Y d mc ms w0 Po nc ns pc lv (.int (zI a) :: st) w := by
  refine ev_if_le hd ht (fun q => kt ?_) (fun q => kf ?_) <;> first | exact (zI_le ha (show (-2147483648 : Int) ≤ 0 ∧ (0 : Int) < 2147483648 by decide)).mp q | exact fun z => q ((zI_le ha (show (-2147483648 : Int) ≤ 0 ∧ (0 : Int) < 2147483648 by decide)).mpr z)
theorem ev_ifeq_b {c : Prop} [Decidable c] {off : Int} {tgt : Nat} (hd : decode Y.2.1 pc = .ok (.ifCond .eq off, 3)) (ht : (pc : Int) + off = (tgt : Int)) (kt : ¬ c → Ev l E Y d mc ms w0 Po nc ns tgt lv st w) (kf : c → Ev l E Y d mc ms w0 Po nc ns (pc + 3) lv st w) : Ev l E Y d mc ms w0 Po nc ns pc lv (.int (nI (b01 c)) :: st) w :=
  ev_if_eq hd ht (fun q => kt (b01_0.mp q)) (fun q => kf (Decidable.of_not_not fun z => q (b01_0.mpr z)))
theorem ev_ifne_b {c : Prop} [Decidable c] {off : Int} {tgt : Nat} (hd : decode Y.2.1 pc = .ok (.ifCond .ne off, 3)) (ht : (pc : Int) + off = (tgt : Int)) (kt : c → Ev l E Y d mc ms w0 Po nc ns tgt lv st w) (kf : ¬ c → Ev l E Y d mc ms w0 Po nc ns (pc + 3) lv st w) : Ev l E Y d mc ms w0 Po nc ns pc lv (.int (nI (b01 c)) :: st) w :=
  ev_if_ne hd ht (fun q => kt (Decidable.of_not_not fun z => q (b01_0.mpr z))) (fun q => kf (b01_0.mp q))
theorem ev_iast_n {a i n v : Nat} {f : Nat → Nat} (hd : decode Y.2.1 pc = .ok (.iastore, 1)) (hw : w[a]? = some (.inl (0, n, .inl (aI f)))) (hi : i < n) (hn : n ≤ 65536) (k : Ev l E Y d mc ms w0 Po nc ns (pc + 1) lv st (w.set a (.inl (0, n, .inl (aI (up f i v)))))) : Ev l E Y d mc ms w0 Po nc ns pc lv (.int (nI v) :: .int (nI i) :: .ref a :: st) w := by
  refine ev_iast hd hw hi hn ?_
  rw [aI_up]
  exact k
theorem ev_iast_z {a i n : Nat} {v : Int} {f : Nat → Int} (hd : decode Y.2.1 pc = .ok (.iastore, 1)) (hw : w[a]? = some (.inl (0, n, .inl (aZ f)))) (hi : i < n) (hn : n ≤ 65536) (k : Ev l E Y d mc ms w0 Po nc ns (pc + 1) lv st (w.set a (.inl (0, n, .inl (aZ (up f i v)))))) : Ev l E Y d mc ms w0 Po nc ns pc lv (.int (zI v) :: .int (nI i) :: .ref a :: st) w := by
  refine ev_iast hd hw hi hn ?_
  rw [aZ_up]
  exact k

theorem ev_max {x y : Int32} {idx : Nat} (hd : decode Y.2.1 pc = .ok (.invokestatic idx, 3)) (hlk : (.methodLink Y.1.cls idx Lib.Math.max.name : Cond) ∈ tbl) (hst : (.static Lib.Math.max.name : Cond) ∈ tbl) (hin : (.initialized "java/lang/Math" : Cond) ∈ tbl) (hco : (.code Lib.Math.max.name Lib.Math.max.code 2 (some .int) : Cond) ∈ tbl) (hdd : 1 ≤ d) (hcat : (st.map fun v => v.category).sum ≤ 8) (hnc : nc ≤ mc) (hns : ns ≤ ms) (k : Ev l E Y d mc ms w0 Po nc ns (pc + 3) lv (.int (if x < y then y else x) :: st) w) : Ev l E Y d mc ms w0 Po nc ns pc lv (.int y :: .int x :: st) w := by
  intro p e s m args below meth c ad0 ad H locs ls C ha0 ha hP hD hS hl
  obtain ⟨hx, hb, hrt, hml, hown, hts, hlk2, hnm, hK, hXS, hXN⟩ := id C
  have hcat2 : (((st.map (xV E ad)).map fun v => v.category).sum) ≤ 8 := by rw [xCats]; exact hcat
  exact va_mmax hx hb (hml.trans hl.1.symm) hown (hts _ (List.mem_cons_of_mem _ hlk)) (hts _ (List.mem_cons_of_mem _ hst)) (hts _ (List.mem_cons_of_mem _ hin)) (hts _ (List.mem_cons_of_mem _ hco)) hdd (by show _ ≤ 100 * d; omega) hnc hns hd (k p e s m args below meth c ad0 ad H locs ls C ha0 ha hP hD hS hl)
theorem n_max {a b : Nat} (ha : a < 2147483648) (hb : b < 2147483648) : (if nI a < nI b then nI b else nI a) = nI (max a b) := by
  split
  · rename_i h; have := (nI_ltI ha hb).mp h; congr 1; omega
  · rename_i h; have := mt (nI_ltI ha hb).mpr h; congr 1; omega
theorem z_max {a b : Int} (ha : -2147483648 ≤ a ∧ a < 2147483648) (hb : -2147483648 ≤ b ∧ b < 2147483648) : (if zI a < zI b then zI b else zI a) = zI (max a b) := by
  split
  · rename_i h; have := (zI_lt ha hb).mp h; congr 1; omega
  · rename_i h; have := mt (zI_lt ha hb).mpr h; congr 1; omega
theorem ev_min {x y : Int32} {idx : Nat} (hd : decode Y.2.1 pc = .ok (.invokestatic idx, 3)) (hlk : (.methodLink Y.1.cls idx Lib.Math.min.name : Cond) ∈ tbl) (hst : (.static Lib.Math.min.name : Cond) ∈ tbl) (hin : (.initialized "java/lang/Math" : Cond) ∈ tbl) (hco : (.code Lib.Math.min.name Lib.Math.min.code 2 (some .int) : Cond) ∈ tbl) (hdd : 1 ≤ d) (hcat : (st.map fun v => v.category).sum ≤ 8) (hnc : nc ≤ mc) (hns : ns ≤ ms) (k : Ev l E Y d mc ms w0 Po nc ns (pc + 3) lv (.int (if y < x then y else x) :: st) w) : Ev l E Y d mc ms w0 Po nc ns pc lv (.int y :: .int x :: st) w := by
  intro p e s m args below meth c ad0 ad H locs ls C ha0 ha hP hD hS hl
  obtain ⟨hx, hb, hrt, hml, hown, hts, hlk2, hnm, hK, hXS, hXN⟩ := id C
  have hcat2 : (((st.map (xV E ad)).map fun v => v.category).sum) ≤ 8 := by rw [xCats]; exact hcat
  exact va_mmin hx hb (hml.trans hl.1.symm) hown (hts _ (List.mem_cons_of_mem _ hlk)) (hts _ (List.mem_cons_of_mem _ hst)) (hts _ (List.mem_cons_of_mem _ hin)) (hts _ (List.mem_cons_of_mem _ hco)) hdd (by show _ ≤ 100 * d; omega) hnc hns hd (k p e s m args below meth c ad0 ad H locs ls C ha0 ha hP hD hS hl)
theorem n_min {a b : Nat} (ha : a < 2147483648) (hb : b < 2147483648) : (if nI b < nI a then nI b else nI a) = nI (min a b) := by
  split
  · rename_i h; have := (nI_ltI hb ha).mp h; congr 1; omega
  · rename_i h; have := mt (nI_ltI hb ha).mpr h; congr 1; omega
theorem z_min {a b : Int} (ha : -2147483648 ≤ a ∧ a < 2147483648) (hb : -2147483648 ≤ b ∧ b < 2147483648) : (if zI b < zI a then zI b else zI a) = zI (min a b) := by
  split
  · rename_i h; have := (zI_lt hb ha).mp h; congr 1; omega
  · rename_i h; have := mt (zI_lt hb ha).mpr h; congr 1; omega
end EVN
