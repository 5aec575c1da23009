/-! ===== both sides of one call ===== -/
abbrev mkX (M : ModN) (C : ScrN) (T : TopN) (tl rf : Nat → Nat) : ModN := (rf, M.wo, M.ta, M.ow, M.sl, M.sh, C.lt, C.sz, M.pl, M.nu, M.od, M.tt, M.oo, M.on, M.wn, M.pd, M.li, tl, T.tc, M.dr)
/-- what holds between calls of what both sides keep -/
def RelO (T : TopN) (S P : SaleN) (lt : Nat → Nat) (sz : Nat) (tl : Nat → Nat) (K : Option (Nat → Nat)) : Prop :=
  SaleOK S ∧ (∀ k, k < S.ca → 1 ≤ S.pr k) ∧ ((T.hp = 0 ∧ K = none) ∨ (T.hp = 1 ∧ K = some (rowS P) ∧ SaleOK P ∧ ∀ k, k < P.ca → 1 ≤ P.pr k)) ∧ sz ≤ 96 ∧ (∀ k, k < sz → lt k ≤ 255) ∧ T.tc ≤ 5 ∧ ∀ k, k < T.tc → tl k ≤ 99
/-- the answer of the reference, its cells after it -/
def MPx (K : Option (Nat → Nat)) (S' : SaleN) (lt' : Nat → Nat) (sz' : Nat) (tl' : Nat → Nat) (tc' : Nat) (rf' : Nat → Nat) (K' : Option (Nat → Nat)) (v : Value) : Option Value → AW → Prop := fun r w' =>
  r = some v ∧ ∃ X' : ModN, MOK S' X' ∧ X'.lt = lt' ∧ X'.ty = sz' ∧ X'.rr = tl' ∧ X'.rn = tc' ∧ X'.rf = rf' ∧ (w' = modW 0 S' X' K' ∧ (K'.isSome = K.isSome ∨ K = none) ∨ ∃ kf kg, K = some kf ∧ K' = some kg ∧ w' = modV S' X' kf kg)
def PairE {α : Type} (c : α → Value) (l : Launch) (E : XE) (mx my : MI) (av : List Value) (T : TopN) (S P U : SaleN) (O : OutN) (B : BillN) (Q : SeaN) (C : ScrN) (R : PrtN) (tl rf : Nat → Nat) (M : ModN) (K : Option (Nat → Nat)) : Prop :=
  ∃ (x : α) (T' : TopN) (S' P' : SaleN) (lt' : Nat → Nat) (sz' : Nat) (tl' rf' : Nat → Nat) (K' : Option (Nat → Nat)) (dx dy mcy msy : Nat), dx ≤ 800 ∧ dy ≤ 800 ∧ mcy ≤ 4 ∧ msy ≤ 124 ∧ RelO T' S' P' lt' sz' tl' K' ∧
    MetE l E mx dx 0 0 (.ref 0 :: av) (compW T S P U O B Q C R tl rf) (CP T' S' P' lt' sz' tl' rf' (some (c x))) ∧
    MetE l E my dy mcy msy (.ref 0 :: av) (modW 0 S (mkX M C T tl rf) K) (MPx K S' lt' sz' tl' T'.tc rf' K' (c x))
theorem pair_mk {α : Type} {c : α → Value} {l : Launch} {E : XE} {mx my : MI} {av : List Value} {T : TopN} {S P U : SaleN} {O : OutN} {B : BillN} {Q : SeaN} {C : ScrN} {R : PrtN} {tl rf : Nat → Nat} {M : ModN} {K : Option (Nat → Nat)}
    {x : α} {T' : TopN} {S' P' : SaleN} {lt' : Nat → Nat} {sz' : Nat} {tl' rf' : Nat → Nat} {K' : Option (Nat → Nat)} {dx dy mcy msy : Nat} (h1 : MetE l E mx dx 0 0 (.ref 0 :: av) (compW T S P U O B Q C R tl rf) (CP T' S' P' lt' sz' tl' rf' (some (c x))))
    (h2 : MetE l E my dy mcy msy (.ref 0 :: av) (modW 0 S (mkX M C T tl rf) K) (MP S' K' lt' sz' tl' T'.tc rf' (some (c x)))) (hR : RelO T' S' P' lt' sz' tl' K') (hK : K'.isSome = K.isSome ∨ K = none) (b1 : dx ≤ 800) (b2 : dy ≤ 800) (b3 : mcy ≤ 4) (b4 : msy ≤ 124) : PairE c l E mx my av T S P U O B Q C R tl rf M K := by
  refine ⟨x, T', S', P', lt', sz', tl', rf', K', dx, dy, mcy, msy, b1, b2, b3, b4, hR, h1, h2.mono ?_⟩
  rintro r w' ⟨rfl, X', rfl, e1, e2, e3, e4, e5, e6⟩
  exact ⟨rfl, X', e1, e2, e3, e4, e5, e6, Or.inl ⟨rfl, hK⟩⟩
theorem RelO.sale {T : TopN} {S P S' : SaleN} {lt : Nat → Nat} {sz : Nat} {tl : Nat → Nat} {K : Option (Nat → Nat)} (h : RelO T S P lt sz tl K) (h1 : SaleOK S') (h2 : ∀ k, k < S'.ca → 1 ≤ S'.pr k) : RelO T S' P lt sz tl K := ⟨h1, h2, h.2.2⟩
theorem RelO.told {T : TopN} {S P : SaleN} {lt : Nat → Nat} {sz : Nat} {tl : Nat → Nat} {K : Option (Nat → Nat)} (h : RelO T S P lt sz tl K) {tc : Nat} {tl' : Nat → Nat} (h1 : tc ≤ 5) (h2 : ∀ k, k < tc → tl' k ≤ 99) : RelO ((tc, T.hp) : TopN) S P lt sz tl' K := ⟨h.1, h.2.1, h.2.2.1, h.2.2.2.1, h.2.2.2.2.1, h1, h2⟩
theorem RelO.typed {T : TopN} {S P : SaleN} {lt lt' : Nat → Nat} {sz sz' : Nat} {tl : Nat → Nat} {K : Option (Nat → Nat)} (h : RelO T S P lt sz tl K) (h1 : sz' ≤ 96) (h2 : ∀ k, k < sz' → lt' k ≤ 255) : RelO T S P lt' sz' tl K := ⟨h.1, h.2.1, h.2.2.1, h1, h2, h.2.2.2.2.2⟩
theorem up_le {f : Nat → Nat} {n v m : Nat} (h : ∀ k, k < n → f k ≤ m) (hv : v ≤ m) : ∀ k, k < n + 1 → up f n v k ≤ m := by
  intro k hk
  unfold up
  by_cases hkn : k = n
  · rw [if_pos hkn]
    exact hv
  · rw [if_neg hkn]
    exact h k (by omega)
theorem blk_two {B : BillN} {f : Nat → Int} : ∀ g : Nat, (blkTo B f g).2 = -9 ∨ ∃ q : Nat, q < g ∧ (blkTo B f g).2 = (q : Int)
  | 0 => Or.inl rfl
  | g + 1 => by
    rw [blkTo_s]
    by_cases h : (blkTo B f g).1 < excZ B f g
    · rw [if_pos h]
      exact Or.inr ⟨g, by omega, rfl⟩
    · rw [if_neg h]
      rcases blk_two g with h1 | ⟨q, h1, h2⟩
      · exact Or.inl h1
      · exact Or.inr ⟨q, by omega, h2⟩

