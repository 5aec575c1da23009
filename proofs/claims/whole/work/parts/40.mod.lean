/-! ===== the reference: its object, calls within it ===== -/
abbrev ModN : Type := (Nat → Nat) × (Nat → Int) × (Nat → Int) × (Nat → Nat) × Nat × Int × (Nat → Nat) × Nat × Nat × Nat × Nat × (Nat → Nat) × (Nat → Nat) × Nat × (Nat → Int) × (Nat → Int) × Nat × (Nat → Nat) × Nat × Int32
abbrev ModN.rf (M : ModN) : Nat → Nat := M.1
abbrev ModN.wo (M : ModN) : Nat → Int := M.2.1
abbrev ModN.ta (M : ModN) : Nat → Int := M.2.2.1
abbrev ModN.ow (M : ModN) : Nat → Nat := M.2.2.2.1
abbrev ModN.sl (M : ModN) : Nat := M.2.2.2.2.1
abbrev ModN.sh (M : ModN) : Int := M.2.2.2.2.2.1
abbrev ModN.lt (M : ModN) : Nat → Nat := M.2.2.2.2.2.2.1
abbrev ModN.ty (M : ModN) : Nat := M.2.2.2.2.2.2.2.1
abbrev ModN.pl (M : ModN) : Nat := M.2.2.2.2.2.2.2.2.1
abbrev ModN.nu (M : ModN) : Nat := M.2.2.2.2.2.2.2.2.2.1
abbrev ModN.od (M : ModN) : Nat := M.2.2.2.2.2.2.2.2.2.2.1
abbrev ModN.tt (M : ModN) : Nat → Nat := M.2.2.2.2.2.2.2.2.2.2.2.1
abbrev ModN.oo (M : ModN) : Nat → Nat := M.2.2.2.2.2.2.2.2.2.2.2.2.1
abbrev ModN.on (M : ModN) : Nat := M.2.2.2.2.2.2.2.2.2.2.2.2.2.1
abbrev ModN.wn (M : ModN) : Nat → Int := M.2.2.2.2.2.2.2.2.2.2.2.2.2.2.1
abbrev ModN.pd (M : ModN) : Nat → Int := M.2.2.2.2.2.2.2.2.2.2.2.2.2.2.2.1
abbrev ModN.li (M : ModN) : Nat := M.2.2.2.2.2.2.2.2.2.2.2.2.2.2.2.2.1
abbrev ModN.rr (M : ModN) : Nat → Nat := M.2.2.2.2.2.2.2.2.2.2.2.2.2.2.2.2.2.1
abbrev ModN.rn (M : ModN) : Nat := M.2.2.2.2.2.2.2.2.2.2.2.2.2.2.2.2.2.2.1
abbrev ModN.dr (M : ModN) : Int32 := M.2.2.2.2.2.2.2.2.2.2.2.2.2.2.2.2.2.2.2
/-- what an image keeps: there is none, or a row of 48 -/
def kpW : Option (Nat → Nat) → AW
  | none => []
  | some f => [.inl (0, 48, .inl (aI f))]
def kpV (b : Nat) : Option (Nat → Nat) → Value
  | none => .null
  | some _ => .ref (b + 19)
def modW (b : Nat) (S : SaleN) (X : ModN) (K : Option (Nat → Nat)) : AW := .inr (8, [.ref (b + 1), .ref (b + 2), .ref (b + 3), .ref (b + 4), .ref (b + 5), .ref (b + 6), .int (nI S.ca), .int (nI S.ac), .ref (b + 7), .ref (b + 8), .ref (b + 9), .ref (b + 10), .int (nI X.sl), .int (zI X.sh), .ref (b + 11), .int (nI X.ty), .int (nI X.pl), .ref (b + 12), .ref (b + 13), .int (nI X.nu), .int (nI X.od), .ref (b + 14), .ref (b + 15), .int (nI X.on), .ref (b + 16), .ref (b + 17), .int (nI X.li), .ref (b + 18), .int (nI X.rn), .int X.dr, kpV b K]) :: .inl (0, 6, .inl (aI S.rs)) :: .inl (0, 5, .inl (aI S.kd)) :: .inl (0, 5, .inl (aI S.fg)) :: .inl (0, 10, .inl (aI S.bd)) :: .inl (0, 10, .inl (aI S.st)) :: .inl (0, 10, .inl (aI S.pr)) :: .inl (0, 7, .inl (aI X.rf)) :: .inl (0, 1024, .inl (aZ X.wo)) :: .inl (0, 1024, .inl (aZ X.ta)) :: .inl (0, 5, .inl (aI X.ow)) :: .inl (0, 96, .inl (aI X.lt)) :: .inl (1, 5, .inl (aI (fun j => j + 0))) :: .inl (1, 5, .inl (aI (fun j => j + 5))) :: .inl (0, 3, .inl (aI X.tt)) :: .inl (0, 10, .inl (aI X.oo)) :: .inl (0, 5, .inl (aZ X.wn)) :: .inl (0, 5, .inl (aZ X.pd)) :: .inl (0, 5, .inl (aI X.rr)) :: kpW K
theorem mod_len (b : Nat) (S : SaleN) (X : ModN) (K : Option (Nat → Nat)) : (modW b S X K).length = 19 + (kpW K).length := by
  unfold modW
  simp only [List.length_cons]
  omega
theorem mod_le {b b' : Nat} {S S' : SaleN} {X X' : ModN} {K : Option (Nat → Nat)} : (modW b S X K).length ≤ (modW b' S' X' K).length := by
  rw [mod_len, mod_len]
  exact Nat.le_refl _
theorem mod_eq {b b' : Nat} {S S' : SaleN} {X X' : ModN} {K : Option (Nat → Nat)} : (modW b S X K).length = (modW b' S' X' K).length := by
  rw [mod_len, mod_len]
theorem rng_ge {x : Nat} : ∀ (n b : Nat), x ∈ rng b n → b ≤ x
  | 0, b, h => by cases h
  | n + 1, b, h => by
    rcases List.mem_cons.mp h with h | h
    · omega
    · have := rng_ge n (b + 1) h
      omega
theorem rng_nd (b : Nat) : ∀ n, va_nd (rng b n) = true
  | 0 => rfl
  | n + 1 => by
    simp only [rng, va_nd, Bool.and_eq_true, decide_eq_true_eq]
    exact ⟨fun h => by have := rng_ge n (b + 1) h; omega, rng_nd (b + 1) n⟩
section EVM
variable {l : Launch} {E : XE} {Y Yc : MI} {d mc ms : Nat} {w0 : AW} {Po Pc : Option Value → AW → Prop} {nc ns pc : Nat} {lv : AL} {st : List Value} {w : AW}
/-- a call whose cells are all of the caller's, in their order -/
theorem ev_callM {idx n dc b ci N : Nat} {fs : List Value} {T : u_T} {As : List Value} {stk : List Value} (hd : decode Y.2.1 pc = .ok (.invokevirtual idx, 3)) (hlk : (.methodLink Y.1.cls idx Yc.1 : Cond) ∈ tbl) (kM : XMv Yc n) (hM : MetE l E Yc dc 0 0 (.ref b :: As) w Pc) (hn : As.length = n) (hst : stk = (Value.ref b :: As).reverse ++ st) (hrv : w[b]? = some (.inr (ci, fs))) (hrc : vwCl[ci]? = some (Yc.1.cls, T, N)) (hdc : dc + 1 ≤ d) (hcat : (st.map fun v => v.category).sum ≤ 8) (hnc : nc ≤ mc) (hns : ns ≤ ms) (hlen : ∀ r w', Pc r w' → w'.length = w.length)
    (kk : ∀ r w', Pc r w' → Ev l E Y d mc ms w0 Po nc ns (pc + 3) lv (r.toList ++ st) w') : Ev l E Y d mc ms w0 Po nc ns pc lv stk w := by
  refine ev_callV (rng 0 w.length) hd hlk kM hM hn (hst.trans ?_) hrv hrc (rng_nd 0 _) (same_hw w) hdc hcat hnc hns (fun r w' h => Nat.le_of_eq (hlen r w' h).symm) (fun r w' h => ?_)
  · rw [List.map_congr_left (fun v _ => xrV_id w.length v), List.map_id']
  · have h1 : r.map (xrV (rng 0 w.length) w.length) = r := by
      cases r with
      | none => rfl
      | some v => exact congrArg some (xrV_id _ v)
    rw [same_xp w w' (hlen r w' h), h1]
    exact kk r w' h
/-- no reference beyond the cells -/
def xvk (n : Nat) : Value → Bool
  | .ref a => decide (a < n)
  | _ => true
def xek (n : Nat) : va_E → Bool
  | .inr x => x.2.all (xvk n)
  | .inl _ => true
theorem xV_new {ad ad' : Nat → Nat} {n : Nat} (h : ∀ k, k < n → ad' k = ad k) {v : Value} (hv : xvk n v = true) : xV E ad' v = xV E ad v := by
  cases v <;> first | rfl | (rename_i a; show Value.ref _ = Value.ref _; rw [h a (of_decide_eq_true hv)])
theorem xE_new {ad ad' : Nat → Nat} {n : Nat} (h : ∀ k, k < n → ad' k = ad k) {e : va_E} (hv : xek n e = true) : xE E ad' e = xE E ad e := by
  rcases e with ⟨k, m, f | x⟩ | ⟨ci, fs⟩
  · rfl
  · rfl
  · show Sum.inr _ = Sum.inr _
    congr 2
    exact List.map_congr_left (fun v hm => xV_new h (List.all_eq_true.mp hv v hm))
theorem xL_new {ad ad' : Nat → Nat} {n : Nat} (h : ∀ k, k < n → ad' k = ad k) {lv : AL} (hv : lv.all (fun q => xvk n q.2) = true) : xL E ad' lv = xL E ad lv := by
  unfold xL
  exact List.map_congr_left (fun q hm => by rw [xV_new h (List.all_eq_true.mp hv q hm)])
theorem xM_new {ad ad' : Nat → Nat} {n : Nat} (h : ∀ k, k < n → ad' k = ad k) {st : List Value} (hv : st.all (xvk n) = true) : st.map (xV E ad') = st.map (xV E ad) :=
  List.map_congr_left (fun v hm => xV_new h (List.all_eq_true.mp hv v hm))
theorem xW_new {ad ad' : Nat → Nat} (h : ∀ k, k < w.length → ad' k = ad k) (hv : w.all (xek w.length) = true) : xW E ad' w = xW E ad w := by
  apply List.ext_getElem?
  intro i
  rw [xW_get, xW_get]
  cases hi : w[i]? with
  | none => rfl
  | some e =>
    show some (ad' i, xE E ad' e) = some (ad i, xE E ad e)
    rw [h i (List.getElem?_eq_some_iff.mp hi).1, xE_new h (List.all_eq_true.mp hv e (List.mem_of_getElem? hi))]
/-- a new int[] -/
theorem ev_newi {n : Nat} (hd : decode Y.2.1 pc = .ok (.newarray .int, 2)) (hac : (.arrayClass .int : Cond) ∈ tbl) (hn : n ≤ 65536) (hlv : lv.all (fun q => xvk w.length q.2) = true) (hst : st.all (xvk w.length) = true) (hwv : w.all (xek w.length) = true) (hlw : w0.length ≤ w.length) (hmc : nc + 1 ≤ mc) (hms : ns + n ≤ ms) (k : Ev l E Y d mc ms w0 Po (nc + 1) (ns + n) (pc + 2) lv (.ref w.length :: st) (w ++ [.inl (0, n, .inl (aI (fun _ => 0)))])) : Ev l E Y d mc ms w0 Po nc ns pc lv (.int (nI n) :: st) w := by
  intro p e s m args below meth c ad0 ad H locs ls C ha0 ha hP hD hS hl
  obtain ⟨hx, hb, hrt, hml, hown, hts, hlk2, hnm, hK, hXS, hXN⟩ := id C
  refine va_newaK (atype := .int) hx hb (hts _ (List.mem_cons_of_mem _ hac)) rfl hd rfl (nI_pos (by omega)) (xto hn) (by show n * 4 ≤ 536870912; omega) hmc hms rfl (fun H' cA h1 h2 h3 h4 h5 => ?_)
  have hcA : cA = E.2.1 := by
    have h6 : s.vm.findClass ("[" ++ (FieldType.int).toString) = some E.2.1 := (hK.2 0 (E.2.1, .int) rfl).2
    exact Option.some.inj (h5.symm.trans h6)
  subst hcA
  have had : ∀ j, j < w.length → (fun j => if j = w.length then H.size else ad j) j = ad j := fun j hj => if_neg (by omega)
  have hP2 : va_P E.1 vwCl (xW E (fun j => if j = w.length then H.size else ad j) (w ++ [.inl (0, n, .inl (aI (fun _ => 0)))])) H' := by
    rw [xW_push, xW_new had hwv, if_pos rfl]
    refine (hP.kept (fun k x hx => h3 x.1 ((hP k x hx).lt))).app (fun k x hx => ?_)
    have hk0 : k = 0 := by
      have := (List.getElem?_eq_some_iff.mp hx).1
      rw [List.length_singleton] at this
      omega
    subst hk0
    cases hx
    show H'[H.size]? = some (vp_cell E.2.1 (n, .inl (aI (fun _ => 0))))
    rw [h1, vp_cell_i]
    rfl
  have hD2 : va_D (xA E ad0 w0 s.heap.size) (xW E (fun j => if j = w.length then H.size else ad j) (w ++ [.inl (0, n, .inl (aI (fun _ => 0)))])) := by
    rw [xW_push, xW_new had hwv, if_pos rfl]
    exact hD.push hP rfl (Or.inr hS.1)
  have hS2 : va_S (xA E ad0 w0 s.heap.size) s.heap H' locs := ⟨Nat.le_trans hS.1 (by omega), fun x h6 h7 => (h3 x (Nat.lt_of_lt_of_le h6 hS.1)).trans (hS.2.1 x h6 h7), hS.2.2⟩
  have hkk := k p e s m args below meth c ad0 _ H' locs ls C (fun z => absurd z (by omega)) (fun j hj => (had j (by omega)).trans (ha j hj)) hP2 hD2 hS2 (by rw [xL_new had hlv]; exact hl)
  have e1 : (Value.ref w.length :: st).map (xV E (fun j => if j = w.length then H.size else ad j)) = .ref H.size :: st.map (xV E ad) := by
    show xV E _ (.ref w.length) :: st.map _ = _
    rw [xM_new had hst]
    congr 1
    exact congrArg Value.ref (if_pos rfl)
  rw [e1] at hkk
  exact hkk
end EVM

/-! ===== the table: which sets of bids have no item in common, what they are worth ===== -/
def dsj (st : Nat → Nat) (m : Nat) : Nat → Bool
  | 0 => true
  | k + 1 => dsj st m k && (!m.testBit k || decide (itTo st m k &&& st k = 0))
theorem dsj_s {st : Nat → Nat} {m k : Nat} : dsj st m (k + 1) = (dsj st m k && (!m.testBit k || decide (itTo st m k &&& st k = 0))) := rfl
def tkZ (F : SaleN) (m : Nat) : Int := if dsj F.st m F.ca = true then ((itTo F.st m F.ca : Nat) : Int) else -1
def wtZ (F : SaleN) (m : Nat) : Int := if dsj F.st m F.ca = true ∧ allS F m then ((worthN F m : Nat) : Int) else -1
def TabF (F : SaleN) (wo ta : Nat → Int) : Prop := ∀ j, j < 1 <<< F.ca → wo j = wtZ F j ∧ ta j = tkZ F j
theorem dsj_in {st : Nat → Nat} {m k : Nat} (h : dsj st m k = true) (hb : ¬ m.testBit k = true) : dsj st m (k + 1) = true := by
  rw [dsj_s, h]
  simp [hb]
theorem dsj_on {st : Nat → Nat} {m k : Nat} (h : dsj st m k = true) (hi : itTo st m k &&& st k = 0) : dsj st m (k + 1) = true := by
  rw [dsj_s, h]
  simp [hi]
theorem dsj_off {st : Nat → Nat} {m k : Nat} (hb : m.testBit k = true) (hi : ¬ itTo st m k &&& st k = 0) : ¬ dsj st m (k + 1) = true := by
  rw [dsj_s]
  simp [hb, hi]
theorem dsj_mono {st : Nat → Nat} {m k : Nat} : ∀ n, k ≤ n → dsj st m n = true → dsj st m k = true
  | 0, h, hd => by
    have : k = 0 := by omega
    subst this
    exact hd
  | n + 1, h, hd => by
    by_cases hk : k = n + 1
    · subst hk; exact hd
    · rw [dsj_s, Bool.and_eq_true] at hd
      exact dsj_mono n (by omega) hd.1
theorem itTo_cg {st : Nat → Nat} {m m' : Nat} : ∀ n, (∀ i, i < n → m.testBit i = m'.testBit i) → itTo st m n = itTo st m' n
  | 0, _ => rfl
  | n + 1, h => by rw [itTo_s, itTo_s, itTo_cg n (fun i hi => h i (by omega)), h n (by omega)]
theorem prTo_cg {pr : Nat → Nat} {m m' : Nat} : ∀ n, (∀ i, i < n → m.testBit i = m'.testBit i) → prTo pr m n = prTo pr m' n
  | 0, _ => rfl
  | n + 1, h => by rw [prTo_s, prTo_s, prTo_cg n (fun i hi => h i (by omega)), h n (by omega)]
theorem dsj_cg {st : Nat → Nat} {m m' : Nat} : ∀ n, (∀ i, i < n → m.testBit i = m'.testBit i) → dsj st m n = dsj st m' n
  | 0, _ => rfl
  | n + 1, h => by rw [dsj_s, dsj_s, dsj_cg n (fun i hi => h i (by omega)), h n (by omega), itTo_cg n (fun i hi => h i (by omega))]
theorem itTo_top {st : Nat → Nat} {m b : Nat} (hm : m < 2 ^ b) : ∀ n, b ≤ n → itTo st m n = itTo st m b
  | 0, h => by
    have : b = 0 := by omega
    subst this; rfl
  | n + 1, h => by
    by_cases hb : b = n + 1
    · subst hb; rfl
    · rw [itTo_s, tb_lt hm (show b ≤ n by omega), itTo_top hm n (by omega)]
      rfl
theorem andn_bit (a b i : Nat) : (andn a b).testBit i = (a.testBit i && !b.testBit i) := by
  unfold andn
  rw [Nat.testBit_xor, Nat.testBit_and]
  cases a.testBit i <;> cases b.testBit i <;> rfl
theorem andn_0 {a b : Nat} : andn a b = 0 ↔ ∀ i, a.testBit i = true → b.testBit i = true := by
  constructor
  · intro h i ha
    have h1 : (andn a b).testBit i = false := by rw [h]; exact Nat.zero_testBit i
    rw [andn_bit, ha] at h1
    cases hb : b.testBit i with
    | true => rfl
    | false => rw [hb] at h1; cases h1
  · intro h
    apply Nat.eq_of_testBit_eq
    intro i
    rw [andn_bit, Nat.zero_testBit]
    cases ha : a.testBit i with
    | false => rfl
    | true => rw [h i ha]; rfl
theorem andn_zero (b : Nat) : andn 0 b = 0 := by
  unfold andn
  rw [Nat.zero_and]
  rfl
theorem sub_le {a b : Nat} (h : andn a b = 0) : a ≤ b := by
  have h1 : a &&& b = a := by
    apply Nat.eq_of_testBit_eq
    intro i
    rw [Nat.testBit_and]
    cases ha : a.testBit i with
    | false => rfl
    | true => rw [andn_0.mp h i ha]; rfl
  rw [← h1]
  exact Nat.and_le_right
theorem packs_iff {F : SaleN} : ∀ b, b ≤ F.ca → ∀ m, m ∈ packsN F b ↔ m < 2 ^ b ∧ andn m F.ac = 0 ∧ dsj F.st m b = true
  | 0, _, m => by
    constructor
    · intro h
      rw [List.mem_singleton.mp h]
      exact ⟨by decide, andn_zero _, rfl⟩
    · rintro ⟨h, -, -⟩
      have h1 : m < 1 := h
      have : m = 0 := by omega
      rw [this]
      exact List.mem_singleton.mpr rfl
  | b + 1, hb, m => by
    have IH := packs_iff (F := F) b (by omega)
    have hp : (2 : Nat) ^ b < 2 ^ (b + 1) := Nat.pow_lt_pow_right (by decide) (by omega)
    rw [packsN_s]
    constructor
    · intro h
      have hlow : m ∈ packsN F b → m < 2 ^ (b + 1) ∧ andn m F.ac = 0 ∧ dsj F.st m (b + 1) = true := by
        intro h
        obtain ⟨h1, h2, h3⟩ := (IH m).mp h
        exact ⟨by omega, h2, dsj_in h3 (by rw [tb_lt h1 (Nat.le_refl _)]; decide)⟩
      split at h
      · rename_i hac
        rcases List.mem_append.mp h with h | h
        · exact hlow h
        · obtain ⟨m0, h1, rfl⟩ := List.mem_map.mp h
          obtain ⟨h2, h3⟩ := List.mem_filter.mp h1
          have h3 := of_decide_eq_true h3
          obtain ⟨k1, k2, k3⟩ := (IH m0).mp h2
          have hcg : ∀ i, i < b → (m0 ||| 1 <<< b).testBit i = m0.testBit i := fun i hi => by
            rw [tb_or]
            have : decide (b = i) = false := by simp; omega
            rw [this, Bool.or_false]
          refine ⟨or_lt (by omega) (shl_lt (by omega)), ?_, ?_⟩
          · rw [andn_0]
            intro i hi
            rw [tb_or] at hi
            by_cases hbi : b = i
            · subst hbi; exact hac
            · have : decide (b = i) = false := by simp [hbi]
              rw [this, Bool.or_false] at hi
              exact andn_0.mp k2 i hi
          · refine dsj_on (by rw [dsj_cg b hcg]; exact k3) ?_
            rw [itTo_cg b hcg, ← itTo_top k1 F.ca (by omega)]
            exact h3
      · exact hlow h
    · rintro ⟨h1, h2, h3⟩
      by_cases hmb : m.testBit b = true
      · have hac : F.ac.testBit b = true := andn_0.mp h2 b hmb
        rw [if_pos hac]
        apply List.mem_append_right
        have e : m = (m ^^^ 1 <<< b) ||| 1 <<< b := by
          apply Nat.eq_of_testBit_eq
          intro i
          rw [tb_or, Nat.testBit_xor, Nat.one_shiftLeft, Nat.testBit_two_pow]
          by_cases hbi : b = i
          · subst hbi; simp [hmb]
          · simp [hbi]
        have hx : ∀ i, (m ^^^ 1 <<< b).testBit i = (m.testBit i && decide (b ≠ i)) := fun i => by
          rw [Nat.testBit_xor, Nat.one_shiftLeft, Nat.testBit_two_pow]
          by_cases hbi : b = i
          · subst hbi; simp [hmb]
          · simp [hbi]
        have hcg : ∀ i, i < b → (m ^^^ 1 <<< b).testBit i = m.testBit i := fun i hi => by
          rw [hx]
          have : decide (b ≠ i) = true := by simp; omega
          rw [this, Bool.and_true]
        have hlt : (m ^^^ 1 <<< b) < 2 ^ b := by
          apply Nat.lt_pow_two_of_testBit
          intro i hi
          rw [hx]
          by_cases hbi : b = i
          · subst hbi; simp
          · rw [tb_lt h1 (show b + 1 ≤ i by omega)]; rfl
        rw [dsj_s, Bool.and_eq_true, hmb] at h3
        have h4 : itTo F.st m b &&& F.st b = 0 := by
          have := h3.2
          simpa using this
        refine List.mem_map.mpr ⟨m ^^^ 1 <<< b, List.mem_filter.mpr ⟨(IH _).mpr ⟨hlt, ?_, ?_⟩, ?_⟩, e.symm⟩
        · rw [andn_0]
          intro i hi
          rw [hx, Bool.and_eq_true] at hi
          exact andn_0.mp h2 i hi.1
        · rw [dsj_cg b hcg]
          exact h3.1
        · rw [itTo_top hlt F.ca (by omega), itTo_cg b hcg]
          exact decide_eq_true h4
      · have hlt : m < 2 ^ b := by
          apply Nat.lt_pow_two_of_testBit
          intro i hi
          by_cases hbi : i = b
          · subst hbi
            cases h : m.testBit i with
            | false => rfl
            | true => exact absurd h hmb
          · exact tb_lt h1 (show b + 1 ≤ i by omega)
        have h5 : m ∈ packsN F b := (IH m).mpr ⟨hlt, h2, dsj_mono (b + 1) (by omega) h3⟩
        split
        · exact List.mem_append_left _ h5
        · exact h5
theorem out_iff {F : SaleN} (hF : SaleOK F) {m : Nat} (hm : andn m F.ac = 0) : outc F m ↔ 0 ≤ wtZ F m := by
  have h1 := sub_le hm
  have h2 := hF.2.1
  unfold outc wtZ
  rw [packs_iff F.ca (Nat.le_refl _)]
  constructor
  · rintro ⟨⟨-, -, h3⟩, h4⟩
    rw [if_pos ⟨h3, h4⟩]
    omega
  · intro h
    by_cases hc : dsj F.st m F.ca = true ∧ allS F m
    · exact ⟨⟨by omega, hm, hc.1⟩, hc.2⟩
    · rw [if_neg hc] at h
      omega
theorem out_sub {F : SaleN} {m : Nat} (h : outc F m) : andn m F.ac = 0 := ((packs_iff F.ca (Nat.le_refl _) m).mp h.1).2.1
theorem out_dsj {F : SaleN} {m : Nat} (h : outc F m) : dsj F.st m F.ca = true := ((packs_iff F.ca (Nat.le_refl _) m).mp h.1).2.2
theorem out_wt {F : SaleN} {m : Nat} (h : outc F m) : wtZ F m = ((worthN F m : Nat) : Int) := if_pos ⟨out_dsj h, h.2⟩
theorem out_tk {F : SaleN} {m : Nat} (h : outc F m) : tkZ F m = ((itTo F.st m F.ca : Nat) : Int) := if_pos (out_dsj h)
theorem out_shl {F : SaleN} {m : Nat} (h : outc F m) : m < 1 <<< F.ca := by
  rw [Nat.one_shiftLeft]
  exact packsN_lt F _ m h.1
/-! submasks, from above -/
theorem sub_next : ∀ m all x : Nat, andn m all = 0 → andn x all = 0 → x < m → x ≤ (m - 1) &&& all := by
  intro m
  induction m using Nat.strongRecOn with
  | ind m ih =>
    intro all x hm hx hlt
    have sh : ∀ a b : Nat, andn a b = 0 → andn (a / 2) (b / 2) = 0 := fun a b h => by
      rw [andn_0] at h ⊢
      intro i hi
      rw [Nat.testBit_div_two] at hi ⊢
      exact h (i + 1) hi
    have lo : ∀ a b : Nat, andn a b = 0 → a % 2 ≤ b % 2 := fun a b h => by
      have h0 := andn_0.mp h 0
      rw [Nat.testBit_zero, Nat.testBit_zero] at h0
      have h1 : a % 2 = 1 → b % 2 = 1 := fun z => of_decide_eq_true (h0 (decide_eq_true z))
      omega
    have had : ∀ a b : Nat, (a &&& b) / 2 = a / 2 &&& b / 2 := fun a b => by
      apply Nat.eq_of_testBit_eq
      intro i
      rw [Nat.testBit_div_two, Nat.testBit_and, Nat.testBit_and, Nat.testBit_div_two, Nat.testBit_div_two]
    have ham : ∀ a b : Nat, a % 2 = 1 → (a &&& b) % 2 = b % 2 := fun a b h => by
      have h0 : (a &&& b).testBit 0 = b.testBit 0 := by
        rw [Nat.testBit_and, Nat.testBit_zero, h]
        rfl
      rw [Nat.testBit_zero, Nat.testBit_zero] at h0
      have e1 : (a &&& b) % 2 = 1 ↔ b % 2 = 1 := decide_eq_decide.mp h0
      omega
    have e1 := had (m - 1) all
    by_cases hb : m % 2 = 1
    · have h1 : (m - 1) / 2 = m / 2 := by omega
      rw [h1] at e1
      have h2 : m / 2 &&& all / 2 = m / 2 := by
        apply Nat.eq_of_testBit_eq
        intro i
        rw [Nat.testBit_and]
        cases hi : (m / 2).testBit i with
        | false => rfl
        | true => rw [andn_0.mp (sh m all hm) i hi]; rfl
      omega
    · have h1 : (m - 1) / 2 = m / 2 - 1 := by omega
      rw [h1] at e1
      have h2 := ih (m / 2) (by omega) (all / 2) (x / 2) (sh m all hm) (sh x all hx) (by omega)
      have h3 := ham (m - 1) all (by omega)
      have h4 := lo x all hx
      omega
theorem sub_and (a b : Nat) : andn (a &&& b) b = 0 := by
  rw [andn_0]
  intro i hi
  rw [Nat.testBit_and, Bool.and_eq_true] at hi
  exact hi.2
/-! the winners of some bids, submask by submask -/
abbrev aheadZ (wo : Nat → Int) (a b : Nat) : Prop := wo b < wo a ∨ (wo a = wo b ∧ (pop a < pop b ∨ (pop a = pop b ∧ a < b)))
theorem ahead_key {F : SaleN} (hF : SaleOK F) {wo : Nat → Int} {a b : Nat} (ha : outc F a) (hb : outc F b) (ea : wo a = ((worthN F a : Nat) : Int)) (eb : wo b = ((worthN F b : Nat) : Int)) : aheadZ wo a b ↔ keyS F a < keyS F b := by
  have h1 := outc_le hF ha
  have h2 := outc_le hF hb
  have h3 := outc_lt hF ha
  have h4 := outc_lt hF hb
  have h5 := pop_le a
  have h6 := pop_le b
  unfold keyS aheadZ
  rw [key_val h3, key_val h4, ea, eb]
  omega
theorem win_uniq {F : SaleN} (hF : SaleOK F) {sm m : Nat} (h1 : outc F m) (h2 : andn m sm = 0) (h3 : ∀ x, outc F x → andn x sm = 0 → keyS F m ≤ keyS F x) : winB F sm = m ∧ winW F sm = worthN F m := by
  obtain ⟨m0, k1, k2, k3, k4, k5, k6, k7, -, -, k8⟩ := wK_spec hF sm
  have e : keyS F m0 = keyS F m := Nat.le_antisymm (k8 m h1 h2) (h3 m0 k1 k2)
  have h4 := outc_lt hF h1
  have e2 : m0 = m := by
    have h5 := key_bids (worth := worthN F m0) k6
    have h6 := key_bids (worth := worthN F m) h4
    unfold keyS at e
    rw [e] at h5
    rw [h5] at h6
    exact h6
  subst e2
  exact ⟨k4, k5⟩
theorem win_spec {F : SaleN} (hF : SaleOK F) (sm : Nat) : outc F (winB F sm) ∧ andn (winB F sm) sm = 0 ∧ winW F sm = worthN F (winB F sm) := by
  obtain ⟨m0, k1, k2, k3, k4, k5, -⟩ := wK_spec hF sm
  rw [k4, k5]
  exact ⟨k1, k2, rfl⟩
theorem win_cong {F : SaleN} (hF : SaleOK F) {s1 s2 : Nat} (h : ∀ m, outc F m → (andn m s1 = 0 ↔ andn m s2 = 0)) : winB F s1 = winB F s2 ∧ winW F s1 = winW F s2 := by
  obtain ⟨m0, k1, k2, k3, k4, k5, k6, k7, -, -, k8⟩ := wK_spec hF s2
  have := win_uniq hF k1 ((h m0 k1).mpr k2) (fun x hx hx2 => k8 x hx ((h x hx).mp hx2))
  exact ⟨this.1.trans k4.symm, this.2.trans k5.symm⟩
theorem win_act {F : SaleN} (hF : SaleOK F) (sm : Nat) : winB F (sm &&& F.ac) = winB F sm ∧ winW F (sm &&& F.ac) = winW F sm := by
  refine win_cong hF (fun m hm => ?_)
  have h := out_sub hm
  rw [andn_0] at h
  rw [andn_0, andn_0]
  constructor
  · intro h2 i hi
    have := h2 i hi
    rw [Nat.testBit_and, Bool.and_eq_true] at this
    exact this.1
  · intro h2 i hi
    rw [Nat.testBit_and, h2 i hi, h i hi]
    rfl
theorem win_on {F : SaleN} (hF : SaleOK F) : winB F F.ac = winB F 1023 ∧ winW F F.ac = winW F 1023 := by
  refine win_cong hF (fun m hm => ?_)
  have h := out_sub hm
  have h1 := outc_lt hF hm
  have h2 : andn m 1023 = 0 := by
    unfold andn
    rw [and_1023 h1]
    exact Nat.xor_self m
  exact ⟨fun _ => h2, fun _ => h⟩
theorem win_but {F : SaleN} (hF : SaleOK F) (x : Nat) : winB F (andn F.ac x) = winB F (andn 1023 x) ∧ winW F (andn F.ac x) = winW F (andn 1023 x) := by
  refine win_cong hF (fun m hm => ?_)
  have h := andn_0.mp (out_sub hm)
  have h1 := outc_lt hF hm
  have h2 : andn m 1023 = 0 := by
    unfold andn
    rw [and_1023 h1]
    exact Nat.xor_self m
  have h2 := andn_0.mp h2
  rw [andn_0, andn_0]
  constructor
  · intro h3 i hi
    have := h3 i hi
    rw [andn_bit, Bool.and_eq_true] at this ⊢
    exact ⟨h2 i hi, this.2⟩
  · intro h3 i hi
    have := h3 i hi
    rw [andn_bit, Bool.and_eq_true] at this ⊢
    exact ⟨h i hi, this.2⟩
def bestI (F : SaleN) (all m best : Nat) : Prop := outc F best ∧ andn best all = 0 ∧ ∀ x, outc F x → andn x all = 0 → (x = 0 ∨ m < x) → keyS F best ≤ keyS F x
theorem best_start {F : SaleN} {all : Nat} : bestI F all all 0 := ⟨zero_out F, andn_zero _, fun x _ h2 h3 => by
  rcases h3 with rfl | h3
  · exact Nat.le_refl _
  · have := sub_le h2
    omega⟩
theorem best_old {F : SaleN} {all m best : Nat} (h : bestI F all m best) (hm : andn m all = 0) (hn : outc F m → keyS F best ≤ keyS F m) : bestI F all ((m - 1) &&& all) best := by
  refine ⟨h.1, h.2.1, fun x h1 h2 h3 => ?_⟩
  by_cases hx : x = m
  · subst hx
    exact hn h1
  · refine h.2.2 x h1 h2 ?_
    by_cases hlt : x < m
    · have := sub_next m all x hm h2 hlt
      rcases h3 with h3 | h3
      · exact Or.inl h3
      · omega
    · exact Or.inr (by omega)
theorem best_new {F : SaleN} {all m best : Nat} (h : bestI F all m best) (hm : andn m all = 0) (h1 : outc F m) (hk : keyS F m < keyS F best) : bestI F all ((m - 1) &&& all) m := by
  refine ⟨h1, hm, fun x h2 h3 h4 => ?_⟩
  by_cases hx : x = m
  · subst hx
    exact Nat.le_refl _
  · have h5 : keyS F best ≤ keyS F x := by
      refine h.2.2 x h2 h3 ?_
      by_cases hlt : x < m
      · have := sub_next m all x hm h3 hlt
        rcases h4 with h4 | h4
        · exact Or.inl h4
        · omega
      · exact Or.inr (by omega)
    omega
theorem best_end {F : SaleN} (hF : SaleOK F) {sm best : Nat} (h : bestI F (sm &&& F.ac) 0 best) : winB F sm = best ∧ winW F sm = worthN F best := by
  have h1 := win_uniq hF h.1 h.2.1 (fun x h1 h2 => h.2.2 x h1 h2 (by omega))
  rw [(win_act hF sm).1, (win_act hF sm).2] at h1
  exact h1
theorem pop_zero : ∀ n, n < 1024 → pop n = 0 → n = 0 := by decide +kernel
theorem pop_clr : ∀ n, n < 1024 → n ≠ 0 → n &&& (n - 1) < 1024 ∧ pop (n &&& (n - 1)) + 1 = pop n := by decide +kernel
theorem pop_one : ∀ f, f < 10 → ∀ n, n < 1024 → pop n = 1 → n.testBit f = true → n = 1 <<< f := by decide +kernel
theorem itTo_one {st : Nat → Nat} {f n : Nat} (h : f < n) : itTo st (1 <<< f) n = st f := by
  have h1 := itTo_or (st := st) (m := 0) (b := f) (Nat.zero_testBit f) n
  rw [Nat.zero_or, if_pos h, itTo_zero, Nat.zero_or] at h1
  exact h1
theorem prTo_one {pr : Nat → Nat} {f n : Nat} (h : f < n) : prTo pr (1 <<< f) n = pr f := by
  have h1 := prTo_or (pr := pr) (m := 0) (b := f) (Nat.zero_testBit f) n
  rw [Nat.zero_or, if_pos h, prTo_zero, Nat.zero_add] at h1
  exact h1
/-- whose bids are whose, as found anew -/
def owF (S : SaleN) : Nat → Nat := fun b => ownTo S.bd b S.ca
def tbX (X : ModN) (wo ta : Nat → Int) (ow : Nat → Nat) : ModN := (X.rf, wo, ta, ow, 0, X.sh, X.lt, X.ty, X.pl, X.nu, X.od, X.tt, X.oo, X.on, X.wn, X.pd, X.li, X.rr, X.rn, X.dr)
theorem tbX_same {X : ModN} (h : X.sl = 0) : tbX X X.wo X.ta X.ow = X := by
  obtain ⟨rf, wo, ta, ow, sl, X⟩ := X
  have : sl = 0 := h
  subst this
  rfl
theorem own_up {bd : Nat → Nat} {g : Nat → Nat} {k : Nat} (h : ∀ j, j < 5 → g j = ownTo bd j k) : ∀ j, j < 5 → up g (bd k) (g (bd k) ||| 1 <<< k) j = ownTo bd j (k + 1) := by
  intro j hj
  rw [ownTo_s]
  by_cases e : bd k = j
  · subst e
    rw [up_at, if_pos rfl, h _ hj]
  · rw [up_ne (fun z => e z.symm), if_neg e, h j hj]
theorem up_zero {g : Nat → Nat} {k : Nat} (h : ∀ j, j < k → g j = 0) : ∀ j, j < k + 1 → up g k 0 j = 0 := by
  intro j hj
  by_cases e : j = k
  · subst e; rw [up_at]
  · rw [up_ne e]; exact h j (by omega)
theorem tab_up {F : SaleN} {wo ta : Nat → Int} {k : Nat} (h : ∀ j, j < k → wo j = wtZ F j ∧ ta j = tkZ F j) {v : Int} (hv : v = wtZ F k) : ∀ j, j < k + 1 → up wo k v j = wtZ F j ∧ up ta k (tkZ F k) j = tkZ F j := by
  intro j hj
  by_cases e : j = k
  · subst e
    rw [up_at, up_at]
    exact ⟨hv, rfl⟩
  · rw [up_ne e, up_ne e]
    exact h j (by omega)
theorem may_zero {kd fg : Nat} {m : Nat} {pr st : Nat → Nat} {n : Nat} (h : m < 1024) (h0 : pop m = 0) : mayP kd fg (pop m) (prTo pr m n) (pop (itTo st m n)) := by
  have := pop_zero m h h0
  subst this
  rw [prTo_zero, itTo_zero, pop_0]
  unfold mayP
  omega

