/-! ===== the outcomes in their order ===== -/
theorem pk_nodup (S : SaleN) : ∀ b, (packsN S b).Pairwise (fun x y => x ≠ y)
  | 0 => List.pairwise_singleton _ _
  | b + 1 => by
    rw [packsN_s]
    have ih := pk_nodup S b
    split
    · rw [List.pairwise_append]
      refine ⟨ih, ?_, fun x hx y hy => ?_⟩
      · unfold joinsN
        rw [List.pairwise_map]
        refine (List.Pairwise.filter _ ih).imp_of_mem (fun {x y} hx hy h e => h ?_)
        have h1 := packsN_lt S b x (List.mem_filter.mp hx).1
        have h2 := packsN_lt S b y (List.mem_filter.mp hy).1
        apply Nat.eq_of_testBit_eq
        intro i
        have h3 := congrArg (fun n => Nat.testBit n i) e
        simp only [tb_or] at h3
        by_cases hi : b = i
        · subst hi
          rw [tb_lt h1 (Nat.le_refl _), tb_lt h2 (Nat.le_refl _)]
        · simpa [hi] using h3
      · obtain ⟨m, h1, rfl⟩ := List.mem_map.mp hy
        intro e
        have h2 := packsN_lt S b x hx
        have h3 : (m ||| 1 <<< b).testBit b = true := by rw [tb_or]; simp
        rw [← e, tb_lt h2 (Nat.le_refl _)] at h3
        cases h3
    · exact ih
theorem ks_nodup {S : SaleN} (hS : SaleOK S) : (keysOf S (packsN S S.ca)).Pairwise (fun x y => x ≠ y) := by
  unfold keysOf
  rw [List.pairwise_map]
  refine (List.Pairwise.filter _ (pk_nodup S S.ca)).imp_of_mem (fun {x y} hx hy h e => h ?_)
  have h1 := outc_lt hS (m := x) ⟨(List.mem_filter.mp hx).1, of_decide_eq_true (List.mem_filter.mp hx).2⟩
  have h2 := outc_lt hS (m := y) ⟨(List.mem_filter.mp hy).1, of_decide_eq_true (List.mem_filter.mp hy).2⟩
  have h3 := key_bids (worth := worthN S x) h1
  have h4 := key_bids (worth := worthN S y) h2
  unfold keyS at e
  rw [e, h4] at h3
  exact h3.symm
theorem next_spec (key : Int) : ∀ (K : List Nat) (b : Nat), K.foldl (fun (b k : Nat) => if key < (k : Int) ∧ k < b then k else b) b ≤ b ∧ (∀ k ∈ K, key < (k : Int) → K.foldl (fun (b k : Nat) => if key < (k : Int) ∧ k < b then k else b) b ≤ k) ∧ (K.foldl (fun (b k : Nat) => if key < (k : Int) ∧ k < b then k else b) b = b ∨ (K.foldl (fun (b k : Nat) => if key < (k : Int) ∧ k < b then k else b) b ∈ K ∧ key < ((K.foldl (fun (b k : Nat) => if key < (k : Int) ∧ k < b then k else b) b : Nat) : Int)))
  | [], b => ⟨Nat.le_refl _, (fun k h => by cases h), Or.inl rfl⟩
  | x :: K, b => by
    obtain ⟨h1, h2, h3⟩ := next_spec key K (if key < (x : Int) ∧ x < b then x else b)
    have hb : (if key < (x : Int) ∧ x < b then x else b) ≤ b ∧ (key < (x : Int) → (if key < (x : Int) ∧ x < b then x else b) ≤ x) ∧ ((if key < (x : Int) ∧ x < b then x else b) = b ∨ ((if key < (x : Int) ∧ x < b then x else b) = x ∧ key < (x : Int))) := by
      by_cases hc : key < (x : Int) ∧ x < b
      · rw [if_pos hc]
        exact ⟨Nat.le_of_lt hc.2, fun _ => Nat.le_refl _, Or.inr ⟨rfl, hc.1⟩⟩
      · rw [if_neg hc]
        exact ⟨Nat.le_refl _, fun h => Nat.le_of_not_lt fun z => hc ⟨h, z⟩, Or.inl rfl⟩
    rw [List.foldl_cons]
    refine ⟨Nat.le_trans h1 hb.1, fun k hk ha => ?_, ?_⟩
    · rcases List.mem_cons.mp hk with rfl | hk
      · exact Nat.le_trans h1 (hb.2.1 ha)
      · exact h2 k hk ha
    · rcases h3 with h3 | ⟨h3, h4⟩
      · rw [h3]
        rcases hb.2.2 with h5 | ⟨h5, h6⟩
        · exact Or.inl h5
        · rw [h5]
          exact Or.inr ⟨List.mem_cons_self, h6⟩
      · exact Or.inr ⟨List.mem_cons_of_mem _ h3, h4⟩
def cntI (K : List Nat) (key : Int) : Nat := (K.filter (fun (k : Nat) => decide ((k : Int) ≤ key))).length
theorem cnt_one {m : Nat} : ∀ K : List Nat, K.Pairwise (fun x y => x ≠ y) → m ∈ K → (K.filter (fun (k : Nat) => decide (k = m))).length = 1
  | [], _, h => by cases h
  | a :: K, hp, h => by
    rw [List.pairwise_cons] at hp
    by_cases e : a = m
    · subst e
      rw [List.filter_cons_of_pos (by simp), List.length_cons]
      have : K.filter (fun (k : Nat) => decide (k = a)) = [] := by
        rw [List.filter_eq_nil_iff]
        intro k hk hd
        exact hp.1 k hk (of_decide_eq_true hd).symm
      rw [this]
      rfl
    · rw [List.filter_cons_of_neg (by simp [e])]
      rcases List.mem_cons.mp h with h | h
      · exact absurd h.symm e
      · exact cnt_one K hp.2 h
theorem cnt_split {m : Nat} {key : Int} (hm : key < (m : Int)) : ∀ K : List Nat, (∀ k ∈ K, key < (k : Int) → m ≤ k) → cntI K (m : Int) = cntI K key + (K.filter (fun (k : Nat) => decide (k = m))).length
  | [], _ => rfl
  | a :: K, h => by
    have ih := cnt_split hm K (fun k hk => h k (List.mem_cons_of_mem _ hk))
    unfold cntI at ih ⊢
    have ha := h a List.mem_cons_self
    by_cases e : a = m
    · subst e
      rw [List.filter_cons_of_pos (by simp), List.filter_cons_of_neg (by simp; omega), List.filter_cons_of_pos (by simp), List.length_cons, List.length_cons, ih]
      omega
    · by_cases hk : (a : Int) ≤ key
      · rw [List.filter_cons_of_pos (by simp; omega), List.filter_cons_of_pos (by simp [hk]), List.filter_cons_of_neg (by simp [e]), List.length_cons, List.length_cons, ih]
        omega
      · have := ha (by omega)
        rw [List.filter_cons_of_neg (by simp; omega), List.filter_cons_of_neg (by simp; omega), List.filter_cons_of_neg (by simp [e]), ih]
theorem cnt_all {key : Int} {K : List Nat} (h : ∀ k ∈ K, (k : Int) ≤ key) : cntI K key = K.length := by
  unfold cntI
  rw [List.filter_eq_self.mpr (fun k hk => decide_eq_true (h k hk))]
theorem cnt_neg {K : List Nat} : cntI K (-1) = 0 := by
  unfold cntI
  rw [List.filter_eq_nil_iff.mpr (fun k _ hd => by have := of_decide_eq_true hd; omega)]
  rfl
/-- the next key, where there is one -/
theorem next_in {S : SaleN} (hS : SaleOK S) {key : Int} (h : ∃ k ∈ keysOf S (packsN S S.ca), key < (k : Int)) : nextLs (keysOf S (packsN S S.ca)) key ∈ keysOf S (packsN S S.ca) ∧ key < ((nextLs (keysOf S (packsN S S.ca)) key : Nat) : Int) ∧ ∀ k ∈ keysOf S (packsN S S.ca), key < (k : Int) → nextLs (keysOf S (packsN S S.ca)) key ≤ k := by
  obtain ⟨h1, h2, h3⟩ := next_spec key (keysOf S (packsN S S.ca)) 2147483647
  obtain ⟨k, hk, hlt⟩ := h
  have h4 := h2 k hk hlt
  obtain ⟨m, hm, e⟩ := mem_keys.mp hk
  have h5 : k < 2147483647 := by rw [e]; exact key_lt (outc_lt hS hm)
  rcases h3 with h3 | h3
  · exfalso
    rw [h3] at h4
    omega
  · exact ⟨h3.1, h3.2, h2⟩
theorem rank_cnt {S : SaleN} (hS : SaleOK S) : ∀ r, r ≤ (keysOf S (packsN S S.ca)).length → cntI (keysOf S (packsN S S.ca)) (rankLs (keysOf S (packsN S S.ca)) r) = r
  | 0, _ => cnt_neg
  | r + 1, hr => by
    have ih := rank_cnt hS r (by omega)
    have hex : ∃ k ∈ keysOf S (packsN S S.ca), rankLs (keysOf S (packsN S S.ca)) r < (k : Int) := by
      apply Classical.byContradiction
      intro hn
      have h1 := cnt_all (K := keysOf S (packsN S S.ca)) (key := rankLs (keysOf S (packsN S S.ca)) r) (fun k hk => Int.not_lt.mp (fun z => hn ⟨k, hk, z⟩))
      omega
    obtain ⟨h1, h2, h3⟩ := next_in hS hex
    show cntI _ ((nextLs _ (rankLs _ r) : Nat) : Int) = _
    rw [cnt_split h2 _ h3, ih, cnt_one _ (ks_nodup hS) h1]
theorem rank_ex {S : SaleN} (hS : SaleOK S) {r : Nat} (hr : r < (keysOf S (packsN S S.ca)).length) : ∃ k ∈ keysOf S (packsN S S.ca), rankLs (keysOf S (packsN S S.ca)) r < (k : Int) := by
  apply Classical.byContradiction
  intro hn
  have h1 := cnt_all (K := keysOf S (packsN S S.ca)) (key := rankLs (keysOf S (packsN S S.ca)) r) (fun k hk => Int.not_lt.mp (fun z => hn ⟨k, hk, z⟩))
  have h2 := rank_cnt hS r (by omega)
  omega
theorem rank_no {S : SaleN} (hS : SaleOK S) {k : Nat} (hk : k ∈ keysOf S (packsN S S.ca)) : (k : Int) ≤ rankLs (keysOf S (packsN S S.ca)) (keysOf S (packsN S S.ca)).length := by
  have h2 := rank_cnt hS _ (Nat.le_refl _)
  unfold cntI at h2
  have h3 : (keysOf S (packsN S S.ca)).filter (fun (k : Nat) => decide ((k : Int) ≤ rankLs (keysOf S (packsN S S.ca)) (keysOf S (packsN S S.ca)).length)) = keysOf S (packsN S S.ca) := List.filter_sublist.eq_of_length h2
  exact of_decide_eq_true (List.filter_eq_self.mp h3 k hk)
/-- the r-th key's outcome -/
theorem rk_at {S : SaleN} (hS : SaleOK S) {r : Nat} (hr : r < (keysOf S (packsN S S.ca)).length) : ∃ b, outc S b ∧ nextLs (keysOf S (packsN S S.ca)) (rankLs (keysOf S (packsN S S.ca)) r) = keyS S b ∧ bidsN (keyS S b) = b ∧ worthK (keyS S b) = worthN S b := by
  obtain ⟨h1, h2, h3⟩ := next_in hS (rank_ex hS hr)
  obtain ⟨m, hm, e⟩ := mem_keys.mp h1
  have hl := outc_lt hS hm
  have hw := outc_le hS hm
  exact ⟨m, hm, e, key_bids hl, key_worth hl (by omega)⟩
def bfZ (S : SaleN) : Nat → Int
  | 0 => -9
  | r + 1 => ((bidsN (nextLs (keysOf S (packsN S S.ca)) (rankLs (keysOf S (packsN S S.ca)) r)) : Nat) : Int)
/-- the best outcome behind a key, of the sets below m -/
def NxI (S : SaleN) (key : Int) (m : Nat) (i : Int) : Prop := (i = -9 ∧ ∀ x, x < m → outc S x → ((keyS S x : Nat) : Int) ≤ key) ∨ ∃ b : Nat, i = (b : Int) ∧ b < m ∧ outc S b ∧ key < ((keyS S b : Nat) : Int) ∧ ∀ x, x < m → outc S x → key < ((keyS S x : Nat) : Int) → keyS S b ≤ keyS S x
theorem nx_start {S : SaleN} {key : Int} : NxI S key 0 (-9) := Or.inl ⟨rfl, fun x h => absurd h (Nat.not_lt_zero x)⟩
theorem nx_skip {S : SaleN} {key : Int} {m : Nat} {i : Int} (h : NxI S key m i) (hn : outc S m → ((keyS S m : Nat) : Int) ≤ key) : NxI S key (m + 1) i := by
  rcases h with ⟨h1, h2⟩ | ⟨b, h1, h2, h3, h4, h5⟩
  · refine Or.inl ⟨h1, fun x hx ho => ?_⟩
    by_cases e : x = m
    · subst e; exact hn ho
    · exact h2 x (by omega) ho
  · refine Or.inr ⟨b, h1, by omega, h3, h4, fun x hx ho hk => ?_⟩
    by_cases e : x = m
    · subst e
      have := hn ho
      omega
    · exact h5 x (by omega) ho hk
theorem nx_old {S : SaleN} {key : Int} {m b : Nat} {i : Int} (h : NxI S key m i) (hi : i = (b : Int)) (hn : keyS S b ≤ keyS S m) : NxI S key (m + 1) i := by
  rcases h with ⟨h1, h2⟩ | ⟨b', h1, h2, h3, h4, h5⟩
  · omega
  · have : b' = b := by omega
    subst this
    refine Or.inr ⟨b', h1, by omega, h3, h4, fun x hx ho hk => ?_⟩
    by_cases e : x = m
    · subst e; exact hn
    · exact h5 x (by omega) ho hk
theorem nx_new {S : SaleN} {key : Int} {m : Nat} {i : Int} (h : NxI S key m i) (ho : outc S m) (hk : key < ((keyS S m : Nat) : Int)) (hl : ∀ b : Nat, i = (b : Int) → keyS S m ≤ keyS S b) : NxI S key (m + 1) (m : Int) := by
  refine Or.inr ⟨m, rfl, by omega, ho, hk, fun x hx hox hkx => ?_⟩
  by_cases e : x = m
  · subst e; exact Nat.le_refl _
  · rcases h with ⟨h1, h2⟩ | ⟨b, h1, h2, h3, h4, h5⟩
    · have := h2 x (by omega) hox
      omega
    · exact Nat.le_trans (hl b h1) (h5 x (by omega) hox hkx)
theorem nx_some {S : SaleN} (hS : SaleOK S) {r : Nat} {i : Int} (h : NxI S (rankLs (keysOf S (packsN S S.ca)) r) (1 <<< S.ca) i) (hr : r < (keysOf S (packsN S S.ca)).length) : 0 ≤ i ∧ i = bfZ S (r + 1) := by
  obtain ⟨b, hb, e, eb, -⟩ := rk_at hS hr
  obtain ⟨h1, h2, h3⟩ := next_in hS (rank_ex hS hr)
  rw [e] at h2 h3
  rcases h with ⟨g1, g2⟩ | ⟨c, g1, g2, g3, g4, g5⟩
  · have := g2 b (out_shl hb) hb
    omega
  · refine ⟨by omega, ?_⟩
    have h4 := h3 (keyS S c) (mem_keys.mpr ⟨c, g3, rfl⟩) g4
    have h5 := g5 b (out_shl hb) hb h2
    have h6 : keyS S b = keyS S c := Nat.le_antisymm h4 h5
    have h7 : b = c := by
      have h8 := key_bids (worth := worthN S c) (outc_lt hS g3)
      rw [show keyN c (worthN S c) = keyS S c from rfl, ← h6, eb] at h8
      exact h8
    show i = ((bidsN (nextLs _ (rankLs _ r)) : Nat) : Int)
    rw [e, eb, h7]
    exact g1
theorem nx_none {S : SaleN} (hS : SaleOK S) {i : Int} (h : NxI S (rankLs (keysOf S (packsN S S.ca)) (keysOf S (packsN S S.ca)).length) (1 <<< S.ca) i) : i = -9 := by
  rcases h with ⟨g1, g2⟩ | ⟨c, g1, g2, g3, g4, g5⟩
  · exact g1
  · have := rank_no hS (mem_keys.mpr ⟨c, g3, rfl⟩)
    omega
/-- what stands before, as a key -/
theorem bf_key {S : SaleN} (hS : SaleOK S) {r : Nat} (hr : r ≤ (keysOf S (packsN S S.ca)).length) : (r = 0 ∧ bfZ S r = -9 ∧ rankLs (keysOf S (packsN S S.ca)) r = -1) ∨ ∃ b, outc S b ∧ bfZ S r = ((b : Nat) : Int) ∧ rankLs (keysOf S (packsN S S.ca)) r = ((keyS S b : Nat) : Int) := by
  cases r with
  | zero => exact Or.inl ⟨rfl, rfl, rfl⟩
  | succ r =>
    obtain ⟨b, hb, e, eb, -⟩ := rk_at hS (show r < _ by omega)
    refine Or.inr ⟨b, hb, ?_, ?_⟩
    · show ((bidsN (nextLs _ (rankLs _ r)) : Nat) : Int) = _
      rw [e, eb]
    · show ((nextLs _ (rankLs _ r) : Nat) : Int) = _
      rw [e]
theorem nx_bnd {S : SaleN} {key : Int} {m : Nat} {i : Int} (h : NxI S key m i) : -9 ≤ i ∧ i < ((m : Nat) : Int) + 1 ∧ (i < 0 → i = -9) := by
  rcases h with ⟨g1, g2⟩ | ⟨c, g1, g2, g3, g4, g5⟩ <;> omega

theorem bX7_isOutcome_0_7 {l : Launch} {E : XE} : Snd l E mX7_isOutcome 0 7 (xs [x_iload 1, x_aload 0, x_get 8 7, x_push (.int (-1)), x_i2 (fun x y => x ^^^ y)]) := Snd.cons (snd_iload_n (i := 1) dX7_isOutcome_0 rfl) (Snd.cons (snd_aload_n (i := 0) dX7_isOutcome_1 rfl) (Snd.cons (snd_get (ci := 8) (k := 7) dX7_isOutcome_2 rfl inX7 (by decide) tw_921) (Snd.cons (snd_iconst (v := -1) dX7_isOutcome_5 (by decide)) (Snd.cons (snd_ixor dX7_isOutcome_6) Snd.nil))))
theorem bX7_isOutcome_24_25 {l : Launch} {E : XE} : Snd l E mX7_isOutcome 24 25 (xs [x_push (.int (nI 0))]) := Snd.cons (snd_iconst (v := nI 0) dX7_isOutcome_24 (by decide)) Snd.nil
theorem bX7_isOutcome_11_16 {l : Launch} {E : XE} : Snd l E mX7_isOutcome 11 16 (xs [x_aload 0, x_get 8 9, x_iload 1]) := Snd.cons (snd_aload_n (i := 0) dX7_isOutcome_11 rfl) (Snd.cons (snd_get (ci := 8) (k := 9) dX7_isOutcome_12 rfl inX7 (by decide) tw_923) (Snd.cons (snd_iload_n (i := 1) dX7_isOutcome_15 rfl) Snd.nil))
theorem bX7_isOutcome_20_25 {l : Launch} {E : XE} : Snd l E mX7_isOutcome 20 25 (xs [x_push (.int (nI 1)), x_id]) := Snd.cons (snd_iconst (v := nI 1) dX7_isOutcome_20 (by decide)) (Snd.cons (snd_goto (tgt := 25) dX7_isOutcome_21 (by decide)) Snd.nil)
set_option maxHeartbeats 4000000 in
set_option maxRecDepth 100000 in
theorem m_X7_isOutcome {l : Launch} {E : XE} (S : SaleN) (X : ModN) (K : Option (Nat → Nat)) (m : Nat) (hS : SaleOK S) (hm : m < 1024) (hw : -1 ≤ X.wo m ∧ X.wo m ≤ 5000) : MetE l E mX7_isOutcome (0) 0 0 [.ref 0, .int (nI (m))] (modW 0 S X K) (fun r w' => r = some (.int (nI (b01 (andn m S.ac = 0 ∧ 0 ≤ X.wo m)))) ∧ w' = modW 0 S X K) := by
  refine MetE.of (by decide +kernel) (Nat.le_of_ble_eq_true rfl) ?_
  refine ev_eq (lv' := [(0, .ref 0), (1, .int (nI (m)))]) (st' := []) (w' := modW 0 S X K) rfl rfl rfl ?_
  refine ev_b bX7_isOutcome_0_7 (lv' := [(0, .ref 0), (1, .int (nI (m)))]) (st' := [.int (nI (S.ac) ^^^ (-1)), .int (nI (m))]) (w2 := modW 0 S X K) rfl ?_
  refine ev_iandn_n dX7_isOutcome_7 ?_
  refine ev_if_ne_n (tgt := 24) (by exact Nat.lt_of_le_of_lt (xor_and_le _ _) (by omega)) dX7_isOutcome_8 (by decide) (fun h8 => ?_) (fun h8 => ?_)
  · skip
    refine ev_b bX7_isOutcome_24_25 (lv' := [(0, .ref 0), (1, .int (nI (m)))]) (st' := [.int (nI (0))]) (w2 := modW 0 S X K) rfl ?_
    exact ev_zret dX7_isOutcome_25 rfl rfl mod_le (Nat.le_refl _) (Nat.le_refl _) ⟨(congrArg (fun t => some (Value.int (nI t))) (b01_f (by omega)).symm), rfl⟩
  · skip
    refine ev_b bX7_isOutcome_11_16 (lv' := [(0, .ref 0), (1, .int (nI (m)))]) (st' := [.int (nI (m)), .ref 8]) (w2 := modW 0 S X K) rfl ?_
    refine ev_iald_z (f := X.wo) dX7_isOutcome_16 rfl (by omega) (by decide) ?_
    refine ev_if_lt_z (tgt := 24) (by constructor <;> omega) dX7_isOutcome_17 (by decide) (fun h17 => ?_) (fun h17 => ?_)
    · skip
      refine ev_b bX7_isOutcome_24_25 (lv' := [(0, .ref 0), (1, .int (nI (m)))]) (st' := [.int (nI (0))]) (w2 := modW 0 S X K) rfl ?_
      exact ev_zret dX7_isOutcome_25 rfl rfl mod_le (Nat.le_refl _) (Nat.le_refl _) ⟨(congrArg (fun t => some (Value.int (nI t))) (b01_f (by omega)).symm), rfl⟩
    · skip
      refine ev_b bX7_isOutcome_20_25 (lv' := [(0, .ref 0), (1, .int (nI (m)))]) (st' := [.int (nI (1))]) (w2 := modW 0 S X K) rfl ?_
      exact ev_zret dX7_isOutcome_25 rfl rfl mod_le (Nat.le_refl _) (Nat.le_refl _) ⟨(congrArg (fun t => some (Value.int (nI t))) (b01_t (by omega)).symm), rfl⟩
theorem bX7_rank_0_1 {l : Launch} {E : XE} : Snd l E mX7_rank 0 1 (xs [x_iload 1]) := Snd.cons (snd_iload_n (i := 1) dX7_rank_0 rfl) Snd.nil
theorem bX7_rank_4_7 {l : Launch} {E : XE} : Snd l E mX7_rank 4 7 (xs [x_aload 0, x_push (.int (-4))]) := Snd.cons (snd_aload_n (i := 0) dX7_rank_4 rfl) (Snd.cons (snd_bipush (v := -4) dX7_rank_5 (by decide)) Snd.nil)
set_option maxHeartbeats 4000000 in
set_option maxRecDepth 100000 in
theorem q_rank_4 {l : Launch} {E : XE} (S : SaleN) (X : ModN) (K : Option (Nat → Nat)) (z1 z2 : Int) (hS : SaleOK S) (hM : MOK S X) (rz1 : -2147483648 ≤ z1 ∧ z1 < 2147483648) (rz2 : -2147483648 ≤ z2 ∧ z2 < 2147483648) (h : z1 < 0) : MetE l E mX7_rank (1) 0 0 [.ref 0, .int (zI (z1)), .int (zI (z2))] (modW 0 S X K) (MP S K (X.lt) (X.ty) (X.rr) (X.rn) ((up X.rf 4 (X.rf 4 + 1))) (some (.int (-4)))) := by
  refine MetE.of (by decide +kernel) (Nat.le_of_ble_eq_true rfl) ?_
  have hca := hS.1
  have hpw := pow_ca hS
  have hac := ac_lt hS
  have hshl := shl_le hS
  
  refine ev_eq (lv' := [(0, .ref 0), (1, .int (zI (z1))), (2, .int (zI (z2)))]) (st' := []) (w' := modW 0 S X K) rfl rfl rfl ?_
  refine ev_b bX7_rank_0_1 (lv' := [(0, .ref 0), (1, .int (zI (z1))), (2, .int (zI (z2)))]) (st' := [.int (zI (z1))]) (w2 := modW 0 S X K) rfl ?_
  refine ev_if_ge_z (tgt := 11) (by constructor <;> omega) dX7_rank_1 (by decide) (fun h1 => (by exfalso; omega)) (fun h1 => ?_)
  refine ev_b bX7_rank_4_7 (lv' := [(0, .ref 0), (1, .int (zI (z1))), (2, .int (zI (z2)))]) (st' := [.int (-4), .ref 0]) (w2 := modW 0 S X K) rfl ?_
  refine ev_callM (Yc := mX7_refuses) (st := []) dX7_rank_7 tw_1012 kX7_refuses (m_X7_refuses_4 S X K) rfl rfl rfl rfl (by decide) (Nat.le_of_ble_eq_true rfl) (Nat.le_refl _) (Nat.le_refl _) (fun r w' h => by obtain ⟨-, rfl⟩ := h; exact mod_eq) ?_
  rintro _ _ ⟨rfl, rfl⟩
  refine ev_eq (lv' := [(0, .ref 0), (1, .int (zI (z1))), (2, .int (zI (z2)))]) (st' := [.int (-4)]) (w' := modW 0 S (((up X.rf 4 (X.rf 4 + 1)), X.wo, X.ta, X.ow, X.sl, X.sh, X.lt, X.ty, X.pl, X.nu, X.od, X.tt, X.oo, X.on, X.wn, X.pd, X.li, X.rr, X.rn, X.dr) : ModN) K) rfl rfl rfl ?_
  exact ev_iret dX7_rank_10 rfl mod_le (Nat.le_refl _) (Nat.le_refl _) ⟨rfl, _, rfl, hM, rfl, rfl, rfl, rfl, rfl⟩
theorem bX7_rank_11_14 {l : Launch} {E : XE} : Snd l E mX7_rank 11 14 (xs [x_iload 2, x_push (.int (nI 0)), x_push (.int (nI 1))]) := Snd.cons (snd_iload_n (i := 2) dX7_rank_11 rfl) (Snd.cons (snd_iconst (v := nI 0) dX7_rank_12 (by decide)) (Snd.cons (snd_iconst (v := nI 1) dX7_rank_13 (by decide)) Snd.nil))
theorem bX7_rank_20_23 {l : Launch} {E : XE} : Snd l E mX7_rank 20 23 (xs [x_aload 0, x_push (.int (-2))]) := Snd.cons (snd_aload_n (i := 0) dX7_rank_20 rfl) (Snd.cons (snd_bipush (v := -2) dX7_rank_21 (by decide)) Snd.nil)
set_option maxHeartbeats 4000000 in
set_option maxRecDepth 100000 in
theorem q_rank_2 {l : Launch} {E : XE} (S : SaleN) (X : ModN) (K : Option (Nat → Nat)) (z1 z2 : Int) (hS : SaleOK S) (hM : MOK S X) (rz1 : -2147483648 ≤ z1 ∧ z1 < 2147483648) (rz2 : -2147483648 ≤ z2 ∧ z2 < 2147483648) (h : 0 ≤ z1) (h2 : ¬ (z2 = 0 ∨ z2 = 1)) : MetE l E mX7_rank (1) 0 0 [.ref 0, .int (zI (z1)), .int (zI (z2))] (modW 0 S X K) (MP S K (X.lt) (X.ty) (X.rr) (X.rn) ((up X.rf 2 (X.rf 2 + 1))) (some (.int (-2)))) := by
  refine MetE.of (by decide +kernel) (Nat.le_of_ble_eq_true rfl) ?_
  have hca := hS.1
  have hpw := pow_ca hS
  have hac := ac_lt hS
  have hshl := shl_le hS
  
  refine ev_eq (lv' := [(0, .ref 0), (1, .int (zI (z1))), (2, .int (zI (z2)))]) (st' := []) (w' := modW 0 S X K) rfl rfl rfl ?_
  refine ev_b bX7_rank_0_1 (lv' := [(0, .ref 0), (1, .int (zI (z1))), (2, .int (zI (z2)))]) (st' := [.int (zI (z1))]) (w2 := modW 0 S X K) rfl ?_
  refine ev_if_ge_z (tgt := 11) (by constructor <;> omega) dX7_rank_1 (by decide) (fun h1 => ?_) (fun h1 => (by exfalso; omega))
  refine ev_b bX7_rank_11_14 (lv' := [(0, .ref 0), (1, .int (zI (z1))), (2, .int (zI (z2)))]) (st' := [.int (nI (1)), .int (nI (0)), .int (zI (z2))]) (w2 := modW 0 S X K) rfl ?_
  refine ev_callS (Yc := mX7_isIn) [] dX7_rank_14 tw_1036 kX7_isIn (m_X7_isIn_z z2 0 1 rz2 (by decide) (by decide)) rfl (st := []) rfl (by decide) rfl (by decide) (Nat.le_of_ble_eq_true rfl) (Nat.le_refl _) (Nat.le_refl _) (fun r w' h => by obtain ⟨-, rfl⟩ := h; exact Nat.le_of_ble_eq_true rfl) ?_
  rintro _ _ ⟨rfl, rfl⟩
  refine ev_eq (lv' := [(0, .ref 0), (1, .int (zI (z1))), (2, .int (zI (z2)))]) (st' := [.int (nI (b01 (((0 : Nat) : Int) ≤ z2 ∧ z2 ≤ ((1 : Nat) : Int))))]) (w' := modW 0 S X K) rfl rfl rfl ?_
  refine ev_ifne_b (tgt := 27) dX7_rank_17 (by decide) (fun h17 => (by exfalso; omega)) (fun h17 => ?_)
  refine ev_b bX7_rank_20_23 (lv' := [(0, .ref 0), (1, .int (zI (z1))), (2, .int (zI (z2)))]) (st' := [.int (-2), .ref 0]) (w2 := modW 0 S X K) rfl ?_
  refine ev_callM (Yc := mX7_refuses) (st := []) dX7_rank_23 tw_1012 kX7_refuses (m_X7_refuses_2 S X K) rfl rfl rfl rfl (by decide) (Nat.le_of_ble_eq_true rfl) (Nat.le_refl _) (Nat.le_refl _) (fun r w' h => by obtain ⟨-, rfl⟩ := h; exact mod_eq) ?_
  rintro _ _ ⟨rfl, rfl⟩
  refine ev_eq (lv' := [(0, .ref 0), (1, .int (zI (z1))), (2, .int (zI (z2)))]) (st' := [.int (-2)]) (w' := modW 0 S (((up X.rf 2 (X.rf 2 + 1)), X.wo, X.ta, X.ow, X.sl, X.sh, X.lt, X.ty, X.pl, X.nu, X.od, X.tt, X.oo, X.on, X.wn, X.pd, X.li, X.rr, X.rn, X.dr) : ModN) K) rfl rfl rfl ?_
  exact ev_iret dX7_rank_26 rfl mod_le (Nat.le_refl _) (Nat.le_refl _) ⟨rfl, _, rfl, hM, rfl, rfl, rfl, rfl, rfl⟩
theorem bX7_rank_27_28 {l : Launch} {E : XE} : Snd l E mX7_rank 27 28 (xs [x_aload 0]) := Snd.cons (snd_aload_n (i := 0) dX7_rank_27 rfl) Snd.nil
theorem bX7_rank_31_34 {l : Launch} {E : XE} : Snd l E mX7_rank 31 34 (xs [x_push (.int (-9)), x_istore 3]) := Snd.cons (snd_bipush (v := -9) dX7_rank_31 (by decide)) (Snd.cons (snd_istore_n (i := 3) dX7_rank_33 rfl (by decide)) Snd.nil)
theorem bX7_rank_34_37 {l : Launch} {E : XE} : Snd l E mX7_rank 34 37 (xs [x_push (.int (nI 0)), x_istore 4]) := Snd.cons (snd_iconst (v := nI 0) dX7_rank_34 (by decide)) (Snd.cons (snd_istore dX7_rank_35 (by decide)) Snd.nil)
theorem bX7_rank_37_40 {l : Launch} {E : XE} : Snd l E mX7_rank 37 40 (xs [x_iload 4, x_iload 1]) := Snd.cons (snd_iload dX7_rank_37) (Snd.cons (snd_iload_n (i := 1) dX7_rank_39 rfl) Snd.nil)
theorem bX7_rank_43_47 {l : Launch} {E : XE} : Snd l E mX7_rank 43 47 (xs [x_push (.int (-9)), x_istore 5]) := Snd.cons (snd_bipush (v := -9) dX7_rank_43 (by decide)) (Snd.cons (snd_istore dX7_rank_45 (by decide)) Snd.nil)
theorem bX7_rank_47_50 {l : Launch} {E : XE} : Snd l E mX7_rank 47 50 (xs [x_push (.int (nI 0)), x_istore 6]) := Snd.cons (snd_iconst (v := nI 0) dX7_rank_47 (by decide)) (Snd.cons (snd_istore dX7_rank_48 (by decide)) Snd.nil)
theorem bX7_rank_50_57 {l : Launch} {E : XE} : Snd l E mX7_rank 50 57 (xs [x_iload 6, x_push (.int (nI 1)), x_aload 0, x_get 8 6]) := Snd.cons (snd_iload dX7_rank_50) (Snd.cons (snd_iconst (v := nI 1) dX7_rank_52 (by decide)) (Snd.cons (snd_aload_n (i := 0) dX7_rank_53 rfl) (Snd.cons (snd_get (ci := 8) (k := 6) dX7_rank_54 rfl inX7 (by decide) tw_920) Snd.nil)))
theorem bX7_rank_110_112 {l : Launch} {E : XE} : Snd l E mX7_rank 110 112 (xs [x_iload 5]) := Snd.cons (snd_iload dX7_rank_110) Snd.nil
theorem bX7_rank_115_117 {l : Launch} {E : XE} : Snd l E mX7_rank 115 117 (xs [x_push (.int (-9))]) := Snd.cons (snd_bipush (v := -9) dX7_rank_115 (by decide)) Snd.nil
theorem bX7_rank_61_64 {l : Launch} {E : XE} : Snd l E mX7_rank 61 64 (xs [x_aload 0, x_iload 6]) := Snd.cons (snd_aload_n (i := 0) dX7_rank_61 rfl) (Snd.cons (snd_iload dX7_rank_62) Snd.nil)
theorem bX7_rank_107_50 {l : Launch} {E : XE} : Snd l E mX7_rank 107 50 (xs [x_id]) := Snd.cons (snd_goto (tgt := 50) dX7_rank_107 (by decide)) Snd.nil
theorem bX7_rank_70_71 {l : Launch} {E : XE} : Snd l E mX7_rank 70 71 (xs [x_iload 3]) := Snd.cons (snd_iload_n (i := 3) dX7_rank_70 rfl) Snd.nil
theorem bX7_rank_84_86 {l : Launch} {E : XE} : Snd l E mX7_rank 84 86 (xs [x_iload 5]) := Snd.cons (snd_iload dX7_rank_84) Snd.nil
theorem bX7_rank_100_104 {l : Launch} {E : XE} : Snd l E mX7_rank 100 104 (xs [x_iload 6, x_istore 5]) := Snd.cons (snd_iload dX7_rank_100) (Snd.cons (snd_istore dX7_rank_102 (by decide)) Snd.nil)
theorem bX7_rank_89_94 {l : Launch} {E : XE} : Snd l E mX7_rank 89 94 (xs [x_aload 0, x_iload 6, x_iload 5]) := Snd.cons (snd_aload_n (i := 0) dX7_rank_89 rfl) (Snd.cons (snd_iload dX7_rank_90) (Snd.cons (snd_iload dX7_rank_92) Snd.nil))
theorem bX7_rank_74_78 {l : Launch} {E : XE} : Snd l E mX7_rank 74 78 (xs [x_aload 0, x_iload 3, x_iload 6]) := Snd.cons (snd_aload_n (i := 0) dX7_rank_74 rfl) (Snd.cons (snd_iload_n (i := 3) dX7_rank_75 rfl) (Snd.cons (snd_iload dX7_rank_76) Snd.nil))
theorem bX7_rank_118_121 {l : Launch} {E : XE} : Snd l E mX7_rank 118 121 (xs [x_iload 5, x_istore 3]) := Snd.cons (snd_iload dX7_rank_118) (Snd.cons (snd_istore_n (i := 3) dX7_rank_120 rfl (by decide)) Snd.nil)
theorem bX7_rank_124_37 {l : Launch} {E : XE} : Snd l E mX7_rank 124 37 (xs [x_id]) := Snd.cons (snd_goto (tgt := 37) dX7_rank_124 (by decide)) Snd.nil
set_option maxHeartbeats 4000000 in
set_option maxRecDepth 100000 in
theorem q_rank_none0 {l : Launch} {E : XE} (S : SaleN) (X : ModN) (K : Option (Nat → Nat)) (k : Nat) (hS : SaleOK S) (hM : MOK S X) (hk : k < 2147483648) (h : (keysOf S (packsN S S.ca)).length ≤ k) : MetE l E mX7_rank (4) 0 0 [.ref 0, .int (nI (k)), .int (nI (0))] (modW 0 S X K) (MP S K (X.lt) (X.ty) (X.rr) (X.rn) (X.rf) (some (.int (-9)))) := by
  refine MetE.of (by decide +kernel) (Nat.le_of_ble_eq_true rfl) ?_
  have hca := hS.1
  have hpw := pow_ca hS
  have hac := ac_lt hS
  have hshl := shl_le hS
  have hkl : (keysOf S (packsN S S.ca)).length ≤ 1024 := Nat.le_trans keysOf_len (Nat.le_trans (packsN_len S _) hpw)
  refine ev_eq (lv' := [(0, .ref 0), (1, .int (nI (k))), (2, .int (nI (0)))]) (st' := []) (w' := modW 0 S X K) rfl rfl rfl ?_
  refine ev_b bX7_rank_0_1 (lv' := [(0, .ref 0), (1, .int (nI (k))), (2, .int (nI (0)))]) (st' := [.int (nI (k))]) (w2 := modW 0 S X K) rfl ?_
  refine ev_if_ge_n (tgt := 11) (by omega) dX7_rank_1 (by decide) (fun h1 => ?_) (fun h1 => (by exfalso; omega))
  refine ev_b bX7_rank_11_14 (lv' := [(0, .ref 0), (1, .int (nI (k))), (2, .int (nI (0)))]) (st' := [.int (nI (1)), .int (nI (0)), .int (nI (0))]) (w2 := modW 0 S X K) rfl ?_
  refine ev_callS (Yc := mX7_isIn) [] dX7_rank_14 tw_1036 kX7_isIn (m_X7_isIn_n 0 0 1 (by decide) (by decide) (by decide)) rfl (st := []) rfl (by decide) rfl (by decide) (Nat.le_of_ble_eq_true rfl) (Nat.le_refl _) (Nat.le_refl _) (fun r w' h => by obtain ⟨-, rfl⟩ := h; exact Nat.le_of_ble_eq_true rfl) ?_
  rintro _ _ ⟨rfl, rfl⟩
  refine ev_eq (lv' := [(0, .ref 0), (1, .int (nI (k))), (2, .int (nI (0)))]) (st' := [.int (nI (b01 (0 ≤ 0 ∧ 0 ≤ 1)))]) (w' := modW 0 S X K) rfl rfl rfl ?_
  refine ev_ifne_b (tgt := 27) dX7_rank_17 (by decide) (fun h17 => ?_) (fun h17 => (by exfalso; omega))
  refine ev_b bX7_rank_27_28 (lv' := [(0, .ref 0), (1, .int (nI (k))), (2, .int (nI (0)))]) (st' := [.ref 0]) (w2 := modW 0 S X K) rfl ?_
  refine ev_callM (Yc := mX7_table) (st := []) dX7_rank_28 tw_1112 kX7_table (m_X7_table_g S S.kd S.fg X K hS (kf_self hM.1) hM.2) rfl rfl rfl rfl (by decide) (Nat.le_of_ble_eq_true rfl) (Nat.le_refl _) (Nat.le_refl _) (fun r w' h => by obtain ⟨-, wo, ta, ow, rfl, -⟩ := h; exact mod_eq) ?_
  rintro _ _ ⟨rfl, wo, ta, ow, rfl, hT⟩
  refine ev_eq (lv' := [(0, .ref 0), (1, .int (nI (k))), (2, .int (nI (0)))]) (st' := []) (w' := modW 0 S ((X.rf, wo, ta, ow, 0, X.sh, X.lt, X.ty, X.pl, X.nu, X.od, X.tt, X.oo, X.on, X.wn, X.pd, X.li, X.rr, X.rn, X.dr) : ModN) K) rfl rfl rfl ?_
  refine ev_b bX7_rank_31_34 (lv' := [(3, .int (-9)), (0, .ref 0), (1, .int (nI (k))), (2, .int (nI (0)))]) (st' := []) (w2 := modW 0 S ((X.rf, wo, ta, ow, 0, X.sh, X.lt, X.ty, X.pl, X.nu, X.od, X.tt, X.oo, X.on, X.wn, X.pd, X.li, X.rr, X.rn, X.dr) : ModN) K) rfl ?_
  refine ev_eq (lv' := [(3, .int (zI (-9))), (0, .ref 0), (1, .int (nI (k))), (2, .int (nI (0)))]) (by rw [show (-9 : Int32) = zI (-9) from by decide]) rfl rfl ?_
  refine ev_b bX7_rank_34_37 (lv' := [(4, .int (nI (0))), (3, .int (zI (-9))), (0, .ref 0), (1, .int (nI (k))), (2, .int (nI (0)))]) (st' := []) (w2 := modW 0 S ((X.rf, wo, ta, ow, 0, X.sh, X.lt, X.ty, X.pl, X.nu, X.od, X.tt, X.oo, X.on, X.wn, X.pd, X.li, X.rr, X.rn, X.dr) : ModN) K) rfl ?_
  have L37 : ∀ (j_ q : Nat), q + j_ = (keysOf S (packsN S S.ca)).length → Ev l E mX7_rank (4) 0 0 (modW 0 S X K) (MP S K (X.lt) (X.ty) (X.rr) (X.rn) (X.rf) (some (.int (-9)))) 0 0 37 [(4, .int (nI (q))), (3, .int (zI (bfZ S q))), (0, .ref 0), (1, .int (nI (k))), (2, .int (nI (0)))] [] (modW 0 S ((X.rf, wo, ta, ow, 0, X.sh, X.lt, X.ty, X.pl, X.nu, X.od, X.tt, X.oo, X.on, X.wn, X.pd, X.li, X.rr, X.rn, X.dr) : ModN) K) := by
    intro j_
    induction j_ with
    | zero =>
      intro q hk37  
      replace hk37 : q = (keysOf S (packsN S S.ca)).length := hk37
      have hqk : q ≤ (keysOf S (packsN S S.ca)).length := by omega
      have hbf := bf_key hS hqk
      have hbb : -9 ≤ bfZ S q ∧ bfZ S q < 1024 := by
        rcases hbf with ⟨-, h2, -⟩ | ⟨b, h1, h2, -⟩
        · omega
        · have := outc_lt hS h1; omega
      refine ev_b bX7_rank_37_40 (lv' := [(4, .int (nI (q))), (3, .int (zI (bfZ S q))), (0, .ref 0), (1, .int (nI (k))), (2, .int (nI (0)))]) (st' := [.int (nI (k)), .int (nI (q))]) (w2 := modW 0 S ((X.rf, wo, ta, ow, 0, X.sh, X.lt, X.ty, X.pl, X.nu, X.od, X.tt, X.oo, X.on, X.wn, X.pd, X.li, X.rr, X.rn, X.dr) : ModN) K) rfl ?_
      refine ev_icmp_gt_n (tgt := 127) (by omega) (by omega) dX7_rank_40 (by decide) (fun h40 => (by exfalso; omega)) (fun h40 => ?_)
      refine ev_b bX7_rank_43_47 (lv' := [(5, .int (-9)), (4, .int (nI (q))), (3, .int (zI (bfZ S q))), (0, .ref 0), (1, .int (nI (k))), (2, .int (nI (0)))]) (st' := []) (w2 := modW 0 S ((X.rf, wo, ta, ow, 0, X.sh, X.lt, X.ty, X.pl, X.nu, X.od, X.tt, X.oo, X.on, X.wn, X.pd, X.li, X.rr, X.rn, X.dr) : ModN) K) rfl ?_
      refine ev_eq (lv' := [(5, .int (zI (-9))), (4, .int (nI (q))), (3, .int (zI (bfZ S q))), (0, .ref 0), (1, .int (nI (k))), (2, .int (nI (0)))]) (by rw [show (-9 : Int32) = zI (-9) from by decide]) rfl rfl ?_
      refine ev_b bX7_rank_47_50 (lv' := [(6, .int (nI (0))), (5, .int (zI (-9))), (4, .int (nI (q))), (3, .int (zI (bfZ S q))), (0, .ref 0), (1, .int (nI (k))), (2, .int (nI (0)))]) (st' := []) (w2 := modW 0 S ((X.rf, wo, ta, ow, 0, X.sh, X.lt, X.ty, X.pl, X.nu, X.od, X.tt, X.oo, X.on, X.wn, X.pd, X.li, X.rr, X.rn, X.dr) : ModN) K) rfl ?_
      have L50 : ∀ (j_ m : Nat), m + j_ = 1 <<< S.ca → ∀ (i : Int), (NxI S (rankLs (keysOf S (packsN S S.ca)) q) m i) → Ev l E mX7_rank (4) 0 0 (modW 0 S X K) (MP S K (X.lt) (X.ty) (X.rr) (X.rn) (X.rf) (some (.int (-9)))) 0 0 50 [(6, .int (nI (m))), (5, .int (zI (i))), (0, .ref 0), (1, .int (nI (k))), (2, .int (nI (0))), (3, .int (zI (bfZ S q))), (4, .int (nI (q)))] [] (modW 0 S ((X.rf, wo, ta, ow, 0, X.sh, X.lt, X.ty, X.pl, X.nu, X.od, X.tt, X.oo, X.on, X.wn, X.pd, X.li, X.rr, X.rn, X.dr) : ModN) K) := by
        intro j_
        induction j_ with
        | zero =>
          intro m hk50 i hinv50
          replace hk50 : m = 1 <<< S.ca := hk50
          subst hk50
          refine ev_b bX7_rank_50_57 (lv' := [(6, .int (nI ((1 <<< S.ca)))), (5, .int (zI (i))), (0, .ref 0), (1, .int (nI (k))), (2, .int (nI (0))), (3, .int (zI (bfZ S q))), (4, .int (nI (q)))]) (st' := [.int (nI (S.ca)), .int (nI (1)), .int (nI ((1 <<< S.ca)))]) (w2 := modW 0 S ((X.rf, wo, ta, ow, 0, X.sh, X.lt, X.ty, X.pl, X.nu, X.od, X.tt, X.oo, X.on, X.wn, X.pd, X.li, X.rr, X.rn, X.dr) : ModN) K) rfl ?_
          refine ev_ishl_n (by omega) dX7_rank_57 ?_
          refine ev_icmp_ge_n (tgt := 110) (by omega) (by omega) dX7_rank_58 (by decide) (fun h58 => ?_) (fun h58 => (by exfalso; omega))
          have hib := nx_bnd hinv50
          have hsm : q < (keysOf S (packsN S S.ca)).length → 0 ≤ i := fun z => (nx_some hS hinv50 z).1
          have hno : q = (keysOf S (packsN S S.ca)).length → i = -9 := fun z => nx_none hS (by rw [z] at hinv50; exact hinv50)
          refine ev_b bX7_rank_110_112 (lv' := [(6, .int (nI ((1 <<< S.ca)))), (5, .int (zI (i))), (0, .ref 0), (1, .int (nI (k))), (2, .int (nI (0))), (3, .int (zI (bfZ S q))), (4, .int (nI (q)))]) (st' := [.int (zI (i))]) (w2 := modW 0 S ((X.rf, wo, ta, ow, 0, X.sh, X.lt, X.ty, X.pl, X.nu, X.od, X.tt, X.oo, X.on, X.wn, X.pd, X.li, X.rr, X.rn, X.dr) : ModN) K) rfl ?_
          refine ev_if_ge_z (tgt := 118) (by constructor <;> omega) dX7_rank_112 (by decide) (fun h112 => (by exfalso; omega)) (fun h112 => ?_)
          refine ev_b bX7_rank_115_117 (lv' := [(6, .int (nI ((1 <<< S.ca)))), (5, .int (zI (i))), (0, .ref 0), (1, .int (nI (k))), (2, .int (nI (0))), (3, .int (zI (bfZ S q))), (4, .int (nI (q)))]) (st' := [.int (-9)]) (w2 := modW 0 S ((X.rf, wo, ta, ow, 0, X.sh, X.lt, X.ty, X.pl, X.nu, X.od, X.tt, X.oo, X.on, X.wn, X.pd, X.li, X.rr, X.rn, X.dr) : ModN) K) rfl ?_
          exact ev_iret dX7_rank_117 rfl mod_le (Nat.le_refl _) (Nat.le_refl _) ⟨by first | rfl | (rw [ek, ebk]), _, rfl, mok_fresh hM.1 rfl hT, rfl, rfl, rfl, rfl, rfl⟩
        | succ j_ ih50 =>
          intro m hk50 i hinv50
          have hlt50 : m < 1 <<< S.ca := by omega
          have hmw := (hT m hlt50).1
          have hmb := wt_bnd hS m
          have hib := nx_bnd hinv50
          refine ev_b bX7_rank_50_57 (lv' := [(6, .int (nI (m))), (5, .int (zI (i))), (0, .ref 0), (1, .int (nI (k))), (2, .int (nI (0))), (3, .int (zI (bfZ S q))), (4, .int (nI (q)))]) (st' := [.int (nI (S.ca)), .int (nI (1)), .int (nI (m))]) (w2 := modW 0 S ((X.rf, wo, ta, ow, 0, X.sh, X.lt, X.ty, X.pl, X.nu, X.od, X.tt, X.oo, X.on, X.wn, X.pd, X.li, X.rr, X.rn, X.dr) : ModN) K) rfl ?_
          refine ev_ishl_n (by omega) dX7_rank_57 ?_
          refine ev_icmp_ge_n (tgt := 110) (by omega) (by omega) dX7_rank_58 (by decide) (fun h58 => (by exfalso; omega)) (fun h58 => ?_)
          refine ev_b bX7_rank_61_64 (lv' := [(6, .int (nI (m))), (5, .int (zI (i))), (0, .ref 0), (1, .int (nI (k))), (2, .int (nI (0))), (3, .int (zI (bfZ S q))), (4, .int (nI (q)))]) (st' := [.int (nI (m)), .ref 0]) (w2 := modW 0 S ((X.rf, wo, ta, ow, 0, X.sh, X.lt, X.ty, X.pl, X.nu, X.od, X.tt, X.oo, X.on, X.wn, X.pd, X.li, X.rr, X.rn, X.dr) : ModN) K) rfl ?_
          refine ev_callM (Yc := mX7_isOutcome) (st := []) dX7_rank_64 tw_1192 kX7_isOutcome (m_X7_isOutcome S ((X.rf, wo, ta, ow, 0, X.sh, X.lt, X.ty, X.pl, X.nu, X.od, X.tt, X.oo, X.on, X.wn, X.pd, X.li, X.rr, X.rn, X.dr) : ModN) K m hS (by omega) (by show -1 ≤ wo m ∧ wo m ≤ 5000; omega)) rfl rfl rfl rfl (by decide) (Nat.le_of_ble_eq_true rfl) (Nat.le_refl _) (Nat.le_refl _) (fun r w' h => by obtain ⟨-, rfl⟩ := h; exact mod_eq) ?_
          rintro _ _ ⟨rfl, rfl⟩
          refine ev_eq (lv' := [(6, .int (nI (m))), (5, .int (zI (i))), (0, .ref 0), (1, .int (nI (k))), (2, .int (nI (0))), (3, .int (zI (bfZ S q))), (4, .int (nI (q)))]) (st' := [.int (nI (b01 (andn m S.ac = 0 ∧ 0 ≤ wo m)))]) (w' := modW 0 S ((X.rf, wo, ta, ow, 0, X.sh, X.lt, X.ty, X.pl, X.nu, X.od, X.tt, X.oo, X.on, X.wn, X.pd, X.li, X.rr, X.rn, X.dr) : ModN) K) rfl rfl rfl ?_
          refine ev_ifeq_b (tgt := 104) dX7_rank_67 (by decide) (fun h67 => ?_) (fun h67 => ?_)
          · skip
            have hnext := nx_skip hinv50 (fun z => absurd (show andn m S.ac = 0 ∧ 0 ≤ wo m from ⟨out_sub z, by rw [hmw, out_wt z]; omega⟩) h67)
            refine ev_iinc_n (x := m) (v := 1) dX7_rank_104 rfl (by decide) ?_
            refine ev_eq (lv' := [(6, .int (nI (m + 1))), (5, .int (zI (i))), (0, .ref 0), (1, .int (nI (k))), (2, .int (nI (0))), (3, .int (zI (bfZ S q))), (4, .int (nI (q)))]) rfl rfl rfl ?_
            refine ev_b bX7_rank_107_50 (lv' := [(6, .int (nI (m + 1))), (5, .int (zI (i))), (0, .ref 0), (1, .int (nI (k))), (2, .int (nI (0))), (3, .int (zI (bfZ S q))), (4, .int (nI (q)))]) (st' := []) (w2 := modW 0 S ((X.rf, wo, ta, ow, 0, X.sh, X.lt, X.ty, X.pl, X.nu, X.od, X.tt, X.oo, X.on, X.wn, X.pd, X.li, X.rr, X.rn, X.dr) : ModN) K) rfl ?_
            rw [show nI (m + 1) = nI ((m + 1)) from congrArg nI (by omega)]
            exact ih50 (m + 1) (by omega) _ hnext
          · skip
            have hmo : outc S m := (out_iff hS h67.1).mpr (by rw [← hmw]; exact h67.2)
            have hmw2 := hmw.trans (out_wt hmo)
            refine ev_b bX7_rank_70_71 (lv' := [(6, .int (nI (m))), (5, .int (zI (i))), (0, .ref 0), (1, .int (nI (k))), (2, .int (nI (0))), (3, .int (zI (bfZ S q))), (4, .int (nI (q)))]) (st' := [.int (zI (bfZ S q))]) (w2 := modW 0 S ((X.rf, wo, ta, ow, 0, X.sh, X.lt, X.ty, X.pl, X.nu, X.od, X.tt, X.oo, X.on, X.wn, X.pd, X.li, X.rr, X.rn, X.dr) : ModN) K) rfl ?_
            refine ev_if_lt_z (tgt := 84) (by constructor <;> omega) dX7_rank_71 (by decide) (fun h71 => ?_) (fun h71 => ?_)
            · skip
              have hkm : (rankLs (keysOf S (packsN S S.ca)) q) < ((keyS S m : Nat) : Int) := by
                rcases hbf with ⟨-, -, h3⟩ | ⟨b, -, h2, -⟩
                · rw [h3]; omega
                · omega
              refine ev_b bX7_rank_84_86 (lv' := [(6, .int (nI (m))), (5, .int (zI (i))), (0, .ref 0), (1, .int (nI (k))), (2, .int (nI (0))), (3, .int (zI (bfZ S q))), (4, .int (nI (q)))]) (st' := [.int (zI (i))]) (w2 := modW 0 S ((X.rf, wo, ta, ow, 0, X.sh, X.lt, X.ty, X.pl, X.nu, X.od, X.tt, X.oo, X.on, X.wn, X.pd, X.li, X.rr, X.rn, X.dr) : ModN) K) rfl ?_
              refine ev_if_lt_z (tgt := 100) (by constructor <;> omega) dX7_rank_86 (by decide) (fun h86 => ?_) (fun h86 => ?_)
              · skip
                have hnext := nx_new hinv50 hmo hkm (fun b hb => by omega)
                refine ev_b bX7_rank_100_104 (lv' := [(5, .int (nI (m))), (6, .int (nI (m))), (0, .ref 0), (1, .int (nI (k))), (2, .int (nI (0))), (3, .int (zI (bfZ S q))), (4, .int (nI (q)))]) (st' := []) (w2 := modW 0 S ((X.rf, wo, ta, ow, 0, X.sh, X.lt, X.ty, X.pl, X.nu, X.od, X.tt, X.oo, X.on, X.wn, X.pd, X.li, X.rr, X.rn, X.dr) : ModN) K) rfl ?_
                refine ev_eq (lv' := [(5, .int (zI (((m : Nat) : Int)))), (6, .int (nI (m))), (0, .ref 0), (1, .int (nI (k))), (2, .int (nI (0))), (3, .int (zI (bfZ S q))), (4, .int (nI (q)))]) (by rw [zI_nat]) rfl rfl ?_
                refine ev_iinc_n (x := m) (v := 1) dX7_rank_104 rfl (by decide) ?_
                refine ev_eq (lv' := [(6, .int (nI (m + 1))), (5, .int (zI (((m : Nat) : Int)))), (0, .ref 0), (1, .int (nI (k))), (2, .int (nI (0))), (3, .int (zI (bfZ S q))), (4, .int (nI (q)))]) rfl rfl rfl ?_
                refine ev_b bX7_rank_107_50 (lv' := [(6, .int (nI (m + 1))), (5, .int (zI (((m : Nat) : Int)))), (0, .ref 0), (1, .int (nI (k))), (2, .int (nI (0))), (3, .int (zI (bfZ S q))), (4, .int (nI (q)))]) (st' := []) (w2 := modW 0 S ((X.rf, wo, ta, ow, 0, X.sh, X.lt, X.ty, X.pl, X.nu, X.od, X.tt, X.oo, X.on, X.wn, X.pd, X.li, X.rr, X.rn, X.dr) : ModN) K) rfl ?_
                rw [show nI (m + 1) = nI ((m + 1)) from congrArg nI (by omega)]
                exact ih50 (m + 1) (by omega) _ hnext
              · skip
                obtain ⟨bi, hbi, hbil, hbio, hbik, hbim⟩ : ∃ b : Nat, i = (b : Int) ∧ b < m ∧ outc S b ∧ (rankLs (keysOf S (packsN S S.ca)) q) < ((keyS S b : Nat) : Int) ∧ ∀ x, x < m → outc S x → (rankLs (keysOf S (packsN S S.ca)) q) < ((keyS S x : Nat) : Int) → keyS S b ≤ keyS S x := hinv50.resolve_left (fun z => by omega)
                have hbi2 := outc_lt hS hbio
                have hbiw := (hT bi (out_shl hbio)).1
                have hbib := wt_bnd hS bi
                have hai := ahead_key hS hmo hbio hmw2 (hbiw.trans (out_wt hbio))
                refine ev_eq (lv' := [(6, .int (nI (m))), (5, .int (nI (bi))), (0, .ref 0), (1, .int (nI (k))), (2, .int (nI (0))), (3, .int (zI (bfZ S q))), (4, .int (nI (q)))]) (by rw [hbi, zI_nat]) rfl rfl ?_
                refine ev_b bX7_rank_89_94 (lv' := [(6, .int (nI (m))), (5, .int (nI (bi))), (0, .ref 0), (1, .int (nI (k))), (2, .int (nI (0))), (3, .int (zI (bfZ S q))), (4, .int (nI (q)))]) (st' := [.int (nI (bi)), .int (nI (m)), .ref 0]) (w2 := modW 0 S ((X.rf, wo, ta, ow, 0, X.sh, X.lt, X.ty, X.pl, X.nu, X.od, X.tt, X.oo, X.on, X.wn, X.pd, X.li, X.rr, X.rn, X.dr) : ModN) K) rfl ?_
                refine ev_callM (Yc := mX7_isAhead) (st := []) dX7_rank_94 tw_1139 kX7_isAhead (m_X7_isAhead S ((X.rf, wo, ta, ow, 0, X.sh, X.lt, X.ty, X.pl, X.nu, X.od, X.tt, X.oo, X.on, X.wn, X.pd, X.li, X.rr, X.rn, X.dr) : ModN) K m bi (by omega) (by omega) (by show -1 ≤ wo m ∧ wo m ≤ 5000; omega) (by show -1 ≤ wo bi ∧ wo bi ≤ 5000; omega)) rfl rfl rfl rfl (by decide) (Nat.le_of_ble_eq_true rfl) (Nat.le_refl _) (Nat.le_refl _) (fun r w' h => by obtain ⟨-, rfl⟩ := h; exact mod_eq) ?_
                rintro _ _ ⟨rfl, rfl⟩
                refine ev_eq (lv' := [(6, .int (nI (m))), (5, .int (nI (bi))), (0, .ref 0), (1, .int (nI (k))), (2, .int (nI (0))), (3, .int (zI (bfZ S q))), (4, .int (nI (q)))]) (st' := [.int (nI (b01 (aheadZ wo m bi)))]) (w' := modW 0 S ((X.rf, wo, ta, ow, 0, X.sh, X.lt, X.ty, X.pl, X.nu, X.od, X.tt, X.oo, X.on, X.wn, X.pd, X.li, X.rr, X.rn, X.dr) : ModN) K) rfl rfl rfl ?_
                refine ev_ifeq_b (tgt := 104) dX7_rank_97 (by decide) (fun h97 => ?_) (fun h97 => ?_)
                · skip
                  have hnext := nx_old hinv50 hbi (Nat.not_lt.mp (fun z => h97 (hai.mpr z)))
                  rw [hbi] at hnext
                  refine ev_eq (lv' := [(6, .int (nI (m))), (5, .int (zI (((bi : Nat) : Int)))), (0, .ref 0), (1, .int (nI (k))), (2, .int (nI (0))), (3, .int (zI (bfZ S q))), (4, .int (nI (q)))]) (by rw [zI_nat]) rfl rfl ?_
                  refine ev_iinc_n (x := m) (v := 1) dX7_rank_104 rfl (by decide) ?_
                  refine ev_eq (lv' := [(6, .int (nI (m + 1))), (5, .int (zI (((bi : Nat) : Int)))), (0, .ref 0), (1, .int (nI (k))), (2, .int (nI (0))), (3, .int (zI (bfZ S q))), (4, .int (nI (q)))]) rfl rfl rfl ?_
                  refine ev_b bX7_rank_107_50 (lv' := [(6, .int (nI (m + 1))), (5, .int (zI (((bi : Nat) : Int)))), (0, .ref 0), (1, .int (nI (k))), (2, .int (nI (0))), (3, .int (zI (bfZ S q))), (4, .int (nI (q)))]) (st' := []) (w2 := modW 0 S ((X.rf, wo, ta, ow, 0, X.sh, X.lt, X.ty, X.pl, X.nu, X.od, X.tt, X.oo, X.on, X.wn, X.pd, X.li, X.rr, X.rn, X.dr) : ModN) K) rfl ?_
                  rw [show nI (m + 1) = nI ((m + 1)) from congrArg nI (by omega)]
                  exact ih50 (m + 1) (by omega) _ hnext
                · skip
                  have hnext := nx_new hinv50 hmo hkm (fun b hb => by rw [show b = bi by omega]; exact Nat.le_of_lt (hai.mp h97))
                  refine ev_b bX7_rank_100_104 (lv' := [(5, .int (nI (m))), (6, .int (nI (m))), (0, .ref 0), (1, .int (nI (k))), (2, .int (nI (0))), (3, .int (zI (bfZ S q))), (4, .int (nI (q)))]) (st' := []) (w2 := modW 0 S ((X.rf, wo, ta, ow, 0, X.sh, X.lt, X.ty, X.pl, X.nu, X.od, X.tt, X.oo, X.on, X.wn, X.pd, X.li, X.rr, X.rn, X.dr) : ModN) K) rfl ?_
                  refine ev_eq (lv' := [(5, .int (zI (((m : Nat) : Int)))), (6, .int (nI (m))), (0, .ref 0), (1, .int (nI (k))), (2, .int (nI (0))), (3, .int (zI (bfZ S q))), (4, .int (nI (q)))]) (by rw [zI_nat]) rfl rfl ?_
                  refine ev_iinc_n (x := m) (v := 1) dX7_rank_104 rfl (by decide) ?_
                  refine ev_eq (lv' := [(6, .int (nI (m + 1))), (5, .int (zI (((m : Nat) : Int)))), (0, .ref 0), (1, .int (nI (k))), (2, .int (nI (0))), (3, .int (zI (bfZ S q))), (4, .int (nI (q)))]) rfl rfl rfl ?_
                  refine ev_b bX7_rank_107_50 (lv' := [(6, .int (nI (m + 1))), (5, .int (zI (((m : Nat) : Int)))), (0, .ref 0), (1, .int (nI (k))), (2, .int (nI (0))), (3, .int (zI (bfZ S q))), (4, .int (nI (q)))]) (st' := []) (w2 := modW 0 S ((X.rf, wo, ta, ow, 0, X.sh, X.lt, X.ty, X.pl, X.nu, X.od, X.tt, X.oo, X.on, X.wn, X.pd, X.li, X.rr, X.rn, X.dr) : ModN) K) rfl ?_
                  rw [show nI (m + 1) = nI ((m + 1)) from congrArg nI (by omega)]
                  exact ih50 (m + 1) (by omega) _ hnext
            · skip
              obtain ⟨bq, hbq, ebq, ekq⟩ : ∃ b, outc S b ∧ bfZ S q = ((b : Nat) : Int) ∧ (rankLs (keysOf S (packsN S S.ca)) q) = ((keyS S b : Nat) : Int) := hbf.resolve_left (fun z => by omega)
              have hbql := outc_lt hS hbq
              have hbqw := (hT bq (out_shl hbq)).1
              have hbqb := wt_bnd hS bq
              have hak := ahead_key hS hbq hmo (hbqw.trans (out_wt hbq)) hmw2
              refine ev_eq (lv' := [(6, .int (nI (m))), (5, .int (zI (i))), (0, .ref 0), (1, .int (nI (k))), (2, .int (nI (0))), (3, .int (nI (bq))), (4, .int (nI (q)))]) (by rw [ebq, zI_nat]) rfl rfl ?_
              refine ev_b bX7_rank_74_78 (lv' := [(6, .int (nI (m))), (5, .int (zI (i))), (0, .ref 0), (1, .int (nI (k))), (2, .int (nI (0))), (3, .int (nI (bq))), (4, .int (nI (q)))]) (st' := [.int (nI (m)), .int (nI (bq)), .ref 0]) (w2 := modW 0 S ((X.rf, wo, ta, ow, 0, X.sh, X.lt, X.ty, X.pl, X.nu, X.od, X.tt, X.oo, X.on, X.wn, X.pd, X.li, X.rr, X.rn, X.dr) : ModN) K) rfl ?_
              refine ev_callM (Yc := mX7_isAhead) (st := []) dX7_rank_78 tw_1139 kX7_isAhead (m_X7_isAhead S ((X.rf, wo, ta, ow, 0, X.sh, X.lt, X.ty, X.pl, X.nu, X.od, X.tt, X.oo, X.on, X.wn, X.pd, X.li, X.rr, X.rn, X.dr) : ModN) K bq m (by omega) (by omega) (by show -1 ≤ wo bq ∧ wo bq ≤ 5000; omega) (by show -1 ≤ wo m ∧ wo m ≤ 5000; omega)) rfl rfl rfl rfl (by decide) (Nat.le_of_ble_eq_true rfl) (Nat.le_refl _) (Nat.le_refl _) (fun r w' h => by obtain ⟨-, rfl⟩ := h; exact mod_eq) ?_
              rintro _ _ ⟨rfl, rfl⟩
              refine ev_eq (lv' := [(6, .int (nI (m))), (5, .int (zI (i))), (0, .ref 0), (1, .int (nI (k))), (2, .int (nI (0))), (3, .int (nI (bq))), (4, .int (nI (q)))]) (st' := [.int (nI (b01 (aheadZ wo bq m)))]) (w' := modW 0 S ((X.rf, wo, ta, ow, 0, X.sh, X.lt, X.ty, X.pl, X.nu, X.od, X.tt, X.oo, X.on, X.wn, X.pd, X.li, X.rr, X.rn, X.dr) : ModN) K) rfl rfl rfl ?_
              refine ev_ifeq_b (tgt := 104) dX7_rank_81 (by decide) (fun h81 => ?_) (fun h81 => ?_)
              · skip
                have hnext := nx_skip hinv50 (fun _ => by rw [ekq]; have := fun z => h81 (hak.mpr z); omega)
                refine ev_eq (lv' := [(6, .int (nI (m))), (5, .int (zI (i))), (0, .ref 0), (1, .int (nI (k))), (2, .int (nI (0))), (3, .int (zI (bfZ S q))), (4, .int (nI (q)))]) (by rw [ebq, zI_nat]) rfl rfl ?_
                refine ev_iinc_n (x := m) (v := 1) dX7_rank_104 rfl (by decide) ?_
                refine ev_eq (lv' := [(6, .int (nI (m + 1))), (5, .int (zI (i))), (0, .ref 0), (1, .int (nI (k))), (2, .int (nI (0))), (3, .int (zI (bfZ S q))), (4, .int (nI (q)))]) rfl rfl rfl ?_
                refine ev_b bX7_rank_107_50 (lv' := [(6, .int (nI (m + 1))), (5, .int (zI (i))), (0, .ref 0), (1, .int (nI (k))), (2, .int (nI (0))), (3, .int (zI (bfZ S q))), (4, .int (nI (q)))]) (st' := []) (w2 := modW 0 S ((X.rf, wo, ta, ow, 0, X.sh, X.lt, X.ty, X.pl, X.nu, X.od, X.tt, X.oo, X.on, X.wn, X.pd, X.li, X.rr, X.rn, X.dr) : ModN) K) rfl ?_
                rw [show nI (m + 1) = nI ((m + 1)) from congrArg nI (by omega)]
                exact ih50 (m + 1) (by omega) _ hnext
              · skip
                have hkm : (rankLs (keysOf S (packsN S S.ca)) q) < ((keyS S m : Nat) : Int) := by rw [ekq]; have := hak.mp h81; omega
                refine ev_eq (lv' := [(6, .int (nI (m))), (5, .int (zI (i))), (0, .ref 0), (1, .int (nI (k))), (2, .int (nI (0))), (3, .int (zI (bfZ S q))), (4, .int (nI (q)))]) (by rw [ebq, zI_nat]) rfl rfl ?_
                refine ev_b bX7_rank_84_86 (lv' := [(6, .int (nI (m))), (5, .int (zI (i))), (0, .ref 0), (1, .int (nI (k))), (2, .int (nI (0))), (3, .int (zI (bfZ S q))), (4, .int (nI (q)))]) (st' := [.int (zI (i))]) (w2 := modW 0 S ((X.rf, wo, ta, ow, 0, X.sh, X.lt, X.ty, X.pl, X.nu, X.od, X.tt, X.oo, X.on, X.wn, X.pd, X.li, X.rr, X.rn, X.dr) : ModN) K) rfl ?_
                refine ev_if_lt_z (tgt := 100) (by constructor <;> omega) dX7_rank_86 (by decide) (fun h86 => ?_) (fun h86 => ?_)
                · skip
                  have hnext := nx_new hinv50 hmo hkm (fun b hb => by omega)
                  refine ev_b bX7_rank_100_104 (lv' := [(5, .int (nI (m))), (6, .int (nI (m))), (0, .ref 0), (1, .int (nI (k))), (2, .int (nI (0))), (3, .int (zI (bfZ S q))), (4, .int (nI (q)))]) (st' := []) (w2 := modW 0 S ((X.rf, wo, ta, ow, 0, X.sh, X.lt, X.ty, X.pl, X.nu, X.od, X.tt, X.oo, X.on, X.wn, X.pd, X.li, X.rr, X.rn, X.dr) : ModN) K) rfl ?_
                  refine ev_eq (lv' := [(5, .int (zI (((m : Nat) : Int)))), (6, .int (nI (m))), (0, .ref 0), (1, .int (nI (k))), (2, .int (nI (0))), (3, .int (zI (bfZ S q))), (4, .int (nI (q)))]) (by rw [zI_nat]) rfl rfl ?_
                  refine ev_iinc_n (x := m) (v := 1) dX7_rank_104 rfl (by decide) ?_
                  refine ev_eq (lv' := [(6, .int (nI (m + 1))), (5, .int (zI (((m : Nat) : Int)))), (0, .ref 0), (1, .int (nI (k))), (2, .int (nI (0))), (3, .int (zI (bfZ S q))), (4, .int (nI (q)))]) rfl rfl rfl ?_
                  refine ev_b bX7_rank_107_50 (lv' := [(6, .int (nI (m + 1))), (5, .int (zI (((m : Nat) : Int)))), (0, .ref 0), (1, .int (nI (k))), (2, .int (nI (0))), (3, .int (zI (bfZ S q))), (4, .int (nI (q)))]) (st' := []) (w2 := modW 0 S ((X.rf, wo, ta, ow, 0, X.sh, X.lt, X.ty, X.pl, X.nu, X.od, X.tt, X.oo, X.on, X.wn, X.pd, X.li, X.rr, X.rn, X.dr) : ModN) K) rfl ?_
                  rw [show nI (m + 1) = nI ((m + 1)) from congrArg nI (by omega)]
                  exact ih50 (m + 1) (by omega) _ hnext
                · skip
                  obtain ⟨bi, hbi, hbil, hbio, hbik, hbim⟩ : ∃ b : Nat, i = (b : Int) ∧ b < m ∧ outc S b ∧ (rankLs (keysOf S (packsN S S.ca)) q) < ((keyS S b : Nat) : Int) ∧ ∀ x, x < m → outc S x → (rankLs (keysOf S (packsN S S.ca)) q) < ((keyS S x : Nat) : Int) → keyS S b ≤ keyS S x := hinv50.resolve_left (fun z => by omega)
                  have hbi2 := outc_lt hS hbio
                  have hbiw := (hT bi (out_shl hbio)).1
                  have hbib := wt_bnd hS bi
                  have hai := ahead_key hS hmo hbio hmw2 (hbiw.trans (out_wt hbio))
                  refine ev_eq (lv' := [(6, .int (nI (m))), (5, .int (nI (bi))), (0, .ref 0), (1, .int (nI (k))), (2, .int (nI (0))), (3, .int (zI (bfZ S q))), (4, .int (nI (q)))]) (by rw [hbi, zI_nat]) rfl rfl ?_
                  refine ev_b bX7_rank_89_94 (lv' := [(6, .int (nI (m))), (5, .int (nI (bi))), (0, .ref 0), (1, .int (nI (k))), (2, .int (nI (0))), (3, .int (zI (bfZ S q))), (4, .int (nI (q)))]) (st' := [.int (nI (bi)), .int (nI (m)), .ref 0]) (w2 := modW 0 S ((X.rf, wo, ta, ow, 0, X.sh, X.lt, X.ty, X.pl, X.nu, X.od, X.tt, X.oo, X.on, X.wn, X.pd, X.li, X.rr, X.rn, X.dr) : ModN) K) rfl ?_
                  refine ev_callM (Yc := mX7_isAhead) (st := []) dX7_rank_94 tw_1139 kX7_isAhead (m_X7_isAhead S ((X.rf, wo, ta, ow, 0, X.sh, X.lt, X.ty, X.pl, X.nu, X.od, X.tt, X.oo, X.on, X.wn, X.pd, X.li, X.rr, X.rn, X.dr) : ModN) K m bi (by omega) (by omega) (by show -1 ≤ wo m ∧ wo m ≤ 5000; omega) (by show -1 ≤ wo bi ∧ wo bi ≤ 5000; omega)) rfl rfl rfl rfl (by decide) (Nat.le_of_ble_eq_true rfl) (Nat.le_refl _) (Nat.le_refl _) (fun r w' h => by obtain ⟨-, rfl⟩ := h; exact mod_eq) ?_
                  rintro _ _ ⟨rfl, rfl⟩
                  refine ev_eq (lv' := [(6, .int (nI (m))), (5, .int (nI (bi))), (0, .ref 0), (1, .int (nI (k))), (2, .int (nI (0))), (3, .int (zI (bfZ S q))), (4, .int (nI (q)))]) (st' := [.int (nI (b01 (aheadZ wo m bi)))]) (w' := modW 0 S ((X.rf, wo, ta, ow, 0, X.sh, X.lt, X.ty, X.pl, X.nu, X.od, X.tt, X.oo, X.on, X.wn, X.pd, X.li, X.rr, X.rn, X.dr) : ModN) K) rfl rfl rfl ?_
                  refine ev_ifeq_b (tgt := 104) dX7_rank_97 (by decide) (fun h97 => ?_) (fun h97 => ?_)
                  · skip
                    have hnext := nx_old hinv50 hbi (Nat.not_lt.mp (fun z => h97 (hai.mpr z)))
                    rw [hbi] at hnext
                    refine ev_eq (lv' := [(6, .int (nI (m))), (5, .int (zI (((bi : Nat) : Int)))), (0, .ref 0), (1, .int (nI (k))), (2, .int (nI (0))), (3, .int (zI (bfZ S q))), (4, .int (nI (q)))]) (by rw [zI_nat]) rfl rfl ?_
                    refine ev_iinc_n (x := m) (v := 1) dX7_rank_104 rfl (by decide) ?_
                    refine ev_eq (lv' := [(6, .int (nI (m + 1))), (5, .int (zI (((bi : Nat) : Int)))), (0, .ref 0), (1, .int (nI (k))), (2, .int (nI (0))), (3, .int (zI (bfZ S q))), (4, .int (nI (q)))]) rfl rfl rfl ?_
                    refine ev_b bX7_rank_107_50 (lv' := [(6, .int (nI (m + 1))), (5, .int (zI (((bi : Nat) : Int)))), (0, .ref 0), (1, .int (nI (k))), (2, .int (nI (0))), (3, .int (zI (bfZ S q))), (4, .int (nI (q)))]) (st' := []) (w2 := modW 0 S ((X.rf, wo, ta, ow, 0, X.sh, X.lt, X.ty, X.pl, X.nu, X.od, X.tt, X.oo, X.on, X.wn, X.pd, X.li, X.rr, X.rn, X.dr) : ModN) K) rfl ?_
                    rw [show nI (m + 1) = nI ((m + 1)) from congrArg nI (by omega)]
                    exact ih50 (m + 1) (by omega) _ hnext
                  · skip
                    have hnext := nx_new hinv50 hmo hkm (fun b hb => by rw [show b = bi by omega]; exact Nat.le_of_lt (hai.mp h97))
                    refine ev_b bX7_rank_100_104 (lv' := [(5, .int (nI (m))), (6, .int (nI (m))), (0, .ref 0), (1, .int (nI (k))), (2, .int (nI (0))), (3, .int (zI (bfZ S q))), (4, .int (nI (q)))]) (st' := []) (w2 := modW 0 S ((X.rf, wo, ta, ow, 0, X.sh, X.lt, X.ty, X.pl, X.nu, X.od, X.tt, X.oo, X.on, X.wn, X.pd, X.li, X.rr, X.rn, X.dr) : ModN) K) rfl ?_
                    refine ev_eq (lv' := [(5, .int (zI (((m : Nat) : Int)))), (6, .int (nI (m))), (0, .ref 0), (1, .int (nI (k))), (2, .int (nI (0))), (3, .int (zI (bfZ S q))), (4, .int (nI (q)))]) (by rw [zI_nat]) rfl rfl ?_
                    refine ev_iinc_n (x := m) (v := 1) dX7_rank_104 rfl (by decide) ?_
                    refine ev_eq (lv' := [(6, .int (nI (m + 1))), (5, .int (zI (((m : Nat) : Int)))), (0, .ref 0), (1, .int (nI (k))), (2, .int (nI (0))), (3, .int (zI (bfZ S q))), (4, .int (nI (q)))]) rfl rfl rfl ?_
                    refine ev_b bX7_rank_107_50 (lv' := [(6, .int (nI (m + 1))), (5, .int (zI (((m : Nat) : Int)))), (0, .ref 0), (1, .int (nI (k))), (2, .int (nI (0))), (3, .int (zI (bfZ S q))), (4, .int (nI (q)))]) (st' := []) (w2 := modW 0 S ((X.rf, wo, ta, ow, 0, X.sh, X.lt, X.ty, X.pl, X.nu, X.od, X.tt, X.oo, X.on, X.wn, X.pd, X.li, X.rr, X.rn, X.dr) : ModN) K) rfl ?_
                    rw [show nI (m + 1) = nI ((m + 1)) from congrArg nI (by omega)]
                    exact ih50 (m + 1) (by omega) _ hnext
      refine ev_pick (lv' := [(6, .int (nI (0))), (5, .int (zI (-9))), (0, .ref 0), (1, .int (nI (k))), (2, .int (nI (0))), (3, .int (zI (bfZ S q))), (4, .int (nI (q)))]) rfl ?_
      exact L50 (1 <<< S.ca) 0 (by omega) (-9) nx_start
    | succ j_ ih37 =>
      intro q hk37  
      have hlt37 : q < (keysOf S (packsN S S.ca)).length := by omega
      have hqk : q ≤ (keysOf S (packsN S S.ca)).length := by omega
      have hbf := bf_key hS hqk
      have hbb : -9 ≤ bfZ S q ∧ bfZ S q < 1024 := by
        rcases hbf with ⟨-, h2, -⟩ | ⟨b, h1, h2, -⟩
        · omega
        · have := outc_lt hS h1; omega
      refine ev_b bX7_rank_37_40 (lv' := [(4, .int (nI (q))), (3, .int (zI (bfZ S q))), (0, .ref 0), (1, .int (nI (k))), (2, .int (nI (0)))]) (st' := [.int (nI (k)), .int (nI (q))]) (w2 := modW 0 S ((X.rf, wo, ta, ow, 0, X.sh, X.lt, X.ty, X.pl, X.nu, X.od, X.tt, X.oo, X.on, X.wn, X.pd, X.li, X.rr, X.rn, X.dr) : ModN) K) rfl ?_
      refine ev_icmp_gt_n (tgt := 127) (by omega) (by omega) dX7_rank_40 (by decide) (fun h40 => (by exfalso; omega)) (fun h40 => ?_)
      refine ev_b bX7_rank_43_47 (lv' := [(5, .int (-9)), (4, .int (nI (q))), (3, .int (zI (bfZ S q))), (0, .ref 0), (1, .int (nI (k))), (2, .int (nI (0)))]) (st' := []) (w2 := modW 0 S ((X.rf, wo, ta, ow, 0, X.sh, X.lt, X.ty, X.pl, X.nu, X.od, X.tt, X.oo, X.on, X.wn, X.pd, X.li, X.rr, X.rn, X.dr) : ModN) K) rfl ?_
      refine ev_eq (lv' := [(5, .int (zI (-9))), (4, .int (nI (q))), (3, .int (zI (bfZ S q))), (0, .ref 0), (1, .int (nI (k))), (2, .int (nI (0)))]) (by rw [show (-9 : Int32) = zI (-9) from by decide]) rfl rfl ?_
      refine ev_b bX7_rank_47_50 (lv' := [(6, .int (nI (0))), (5, .int (zI (-9))), (4, .int (nI (q))), (3, .int (zI (bfZ S q))), (0, .ref 0), (1, .int (nI (k))), (2, .int (nI (0)))]) (st' := []) (w2 := modW 0 S ((X.rf, wo, ta, ow, 0, X.sh, X.lt, X.ty, X.pl, X.nu, X.od, X.tt, X.oo, X.on, X.wn, X.pd, X.li, X.rr, X.rn, X.dr) : ModN) K) rfl ?_
      have L50 : ∀ (j_ m : Nat), m + j_ = 1 <<< S.ca → ∀ (i : Int), (NxI S (rankLs (keysOf S (packsN S S.ca)) q) m i) → Ev l E mX7_rank (4) 0 0 (modW 0 S X K) (MP S K (X.lt) (X.ty) (X.rr) (X.rn) (X.rf) (some (.int (-9)))) 0 0 50 [(6, .int (nI (m))), (5, .int (zI (i))), (0, .ref 0), (1, .int (nI (k))), (2, .int (nI (0))), (3, .int (zI (bfZ S q))), (4, .int (nI (q)))] [] (modW 0 S ((X.rf, wo, ta, ow, 0, X.sh, X.lt, X.ty, X.pl, X.nu, X.od, X.tt, X.oo, X.on, X.wn, X.pd, X.li, X.rr, X.rn, X.dr) : ModN) K) := by
        intro j_
        induction j_ with
        | zero =>
          intro m hk50 i hinv50
          replace hk50 : m = 1 <<< S.ca := hk50
          subst hk50
          refine ev_b bX7_rank_50_57 (lv' := [(6, .int (nI ((1 <<< S.ca)))), (5, .int (zI (i))), (0, .ref 0), (1, .int (nI (k))), (2, .int (nI (0))), (3, .int (zI (bfZ S q))), (4, .int (nI (q)))]) (st' := [.int (nI (S.ca)), .int (nI (1)), .int (nI ((1 <<< S.ca)))]) (w2 := modW 0 S ((X.rf, wo, ta, ow, 0, X.sh, X.lt, X.ty, X.pl, X.nu, X.od, X.tt, X.oo, X.on, X.wn, X.pd, X.li, X.rr, X.rn, X.dr) : ModN) K) rfl ?_
          refine ev_ishl_n (by omega) dX7_rank_57 ?_
          refine ev_icmp_ge_n (tgt := 110) (by omega) (by omega) dX7_rank_58 (by decide) (fun h58 => ?_) (fun h58 => (by exfalso; omega))
          have hib := nx_bnd hinv50
          have hsm : q < (keysOf S (packsN S S.ca)).length → 0 ≤ i := fun z => (nx_some hS hinv50 z).1
          have hno : q = (keysOf S (packsN S S.ca)).length → i = -9 := fun z => nx_none hS (by rw [z] at hinv50; exact hinv50)
          refine ev_b bX7_rank_110_112 (lv' := [(6, .int (nI ((1 <<< S.ca)))), (5, .int (zI (i))), (0, .ref 0), (1, .int (nI (k))), (2, .int (nI (0))), (3, .int (zI (bfZ S q))), (4, .int (nI (q)))]) (st' := [.int (zI (i))]) (w2 := modW 0 S ((X.rf, wo, ta, ow, 0, X.sh, X.lt, X.ty, X.pl, X.nu, X.od, X.tt, X.oo, X.on, X.wn, X.pd, X.li, X.rr, X.rn, X.dr) : ModN) K) rfl ?_
          refine ev_if_ge_z (tgt := 118) (by constructor <;> omega) dX7_rank_112 (by decide) (fun h112 => ?_) (fun h112 => (by exfalso; omega))
          refine ev_b bX7_rank_118_121 (lv' := [(3, .int (zI (i))), (6, .int (nI ((1 <<< S.ca)))), (5, .int (zI (i))), (0, .ref 0), (1, .int (nI (k))), (2, .int (nI (0))), (4, .int (nI (q)))]) (st' := []) (w2 := modW 0 S ((X.rf, wo, ta, ow, 0, X.sh, X.lt, X.ty, X.pl, X.nu, X.od, X.tt, X.oo, X.on, X.wn, X.pd, X.li, X.rr, X.rn, X.dr) : ModN) K) rfl ?_
          refine ev_iinc_n (x := q) (v := 1) dX7_rank_121 rfl (by decide) ?_
          refine ev_eq (lv' := [(4, .int (nI (q + 1))), (3, .int (zI (i))), (6, .int (nI ((1 <<< S.ca)))), (5, .int (zI (i))), (0, .ref 0), (1, .int (nI (k))), (2, .int (nI (0)))]) rfl rfl rfl ?_
          refine ev_b bX7_rank_124_37 (lv' := [(4, .int (nI (q + 1))), (3, .int (zI (i))), (6, .int (nI ((1 <<< S.ca)))), (5, .int (zI (i))), (0, .ref 0), (1, .int (nI (k))), (2, .int (nI (0)))]) (st' := []) (w2 := modW 0 S ((X.rf, wo, ta, ow, 0, X.sh, X.lt, X.ty, X.pl, X.nu, X.od, X.tt, X.oo, X.on, X.wn, X.pd, X.li, X.rr, X.rn, X.dr) : ModN) K) rfl ?_
          refine ev_pick (lv' := [(4, .int (nI (q + 1))), (3, .int (zI (i))), (0, .ref 0), (1, .int (nI (k))), (2, .int (nI (0)))]) rfl ?_
          rw [show nI (q + 1) = nI ((q + 1)) from congrArg nI (by omega)]
          rw [show zI (i) = zI (bfZ S (q + 1)) from congrArg zI (by exact (nx_some hS hinv50 (by omega)).2)]
          exact ih37 (q + 1) (by omega) 
        | succ j_ ih50 =>
          intro m hk50 i hinv50
          have hlt50 : m < 1 <<< S.ca := by omega
          have hmw := (hT m hlt50).1
          have hmb := wt_bnd hS m
          have hib := nx_bnd hinv50
          refine ev_b bX7_rank_50_57 (lv' := [(6, .int (nI (m))), (5, .int (zI (i))), (0, .ref 0), (1, .int (nI (k))), (2, .int (nI (0))), (3, .int (zI (bfZ S q))), (4, .int (nI (q)))]) (st' := [.int (nI (S.ca)), .int (nI (1)), .int (nI (m))]) (w2 := modW 0 S ((X.rf, wo, ta, ow, 0, X.sh, X.lt, X.ty, X.pl, X.nu, X.od, X.tt, X.oo, X.on, X.wn, X.pd, X.li, X.rr, X.rn, X.dr) : ModN) K) rfl ?_
          refine ev_ishl_n (by omega) dX7_rank_57 ?_
          refine ev_icmp_ge_n (tgt := 110) (by omega) (by omega) dX7_rank_58 (by decide) (fun h58 => (by exfalso; omega)) (fun h58 => ?_)
          refine ev_b bX7_rank_61_64 (lv' := [(6, .int (nI (m))), (5, .int (zI (i))), (0, .ref 0), (1, .int (nI (k))), (2, .int (nI (0))), (3, .int (zI (bfZ S q))), (4, .int (nI (q)))]) (st' := [.int (nI (m)), .ref 0]) (w2 := modW 0 S ((X.rf, wo, ta, ow, 0, X.sh, X.lt, X.ty, X.pl, X.nu, X.od, X.tt, X.oo, X.on, X.wn, X.pd, X.li, X.rr, X.rn, X.dr) : ModN) K) rfl ?_
          refine ev_callM (Yc := mX7_isOutcome) (st := []) dX7_rank_64 tw_1192 kX7_isOutcome (m_X7_isOutcome S ((X.rf, wo, ta, ow, 0, X.sh, X.lt, X.ty, X.pl, X.nu, X.od, X.tt, X.oo, X.on, X.wn, X.pd, X.li, X.rr, X.rn, X.dr) : ModN) K m hS (by omega) (by show -1 ≤ wo m ∧ wo m ≤ 5000; omega)) rfl rfl rfl rfl (by decide) (Nat.le_of_ble_eq_true rfl) (Nat.le_refl _) (Nat.le_refl _) (fun r w' h => by obtain ⟨-, rfl⟩ := h; exact mod_eq) ?_
          rintro _ _ ⟨rfl, rfl⟩
          refine ev_eq (lv' := [(6, .int (nI (m))), (5, .int (zI (i))), (0, .ref 0), (1, .int (nI (k))), (2, .int (nI (0))), (3, .int (zI (bfZ S q))), (4, .int (nI (q)))]) (st' := [.int (nI (b01 (andn m S.ac = 0 ∧ 0 ≤ wo m)))]) (w' := modW 0 S ((X.rf, wo, ta, ow, 0, X.sh, X.lt, X.ty, X.pl, X.nu, X.od, X.tt, X.oo, X.on, X.wn, X.pd, X.li, X.rr, X.rn, X.dr) : ModN) K) rfl rfl rfl ?_
          refine ev_ifeq_b (tgt := 104) dX7_rank_67 (by decide) (fun h67 => ?_) (fun h67 => ?_)
          · skip
            have hnext := nx_skip hinv50 (fun z => absurd (show andn m S.ac = 0 ∧ 0 ≤ wo m from ⟨out_sub z, by rw [hmw, out_wt z]; omega⟩) h67)
            refine ev_iinc_n (x := m) (v := 1) dX7_rank_104 rfl (by decide) ?_
            refine ev_eq (lv' := [(6, .int (nI (m + 1))), (5, .int (zI (i))), (0, .ref 0), (1, .int (nI (k))), (2, .int (nI (0))), (3, .int (zI (bfZ S q))), (4, .int (nI (q)))]) rfl rfl rfl ?_
            refine ev_b bX7_rank_107_50 (lv' := [(6, .int (nI (m + 1))), (5, .int (zI (i))), (0, .ref 0), (1, .int (nI (k))), (2, .int (nI (0))), (3, .int (zI (bfZ S q))), (4, .int (nI (q)))]) (st' := []) (w2 := modW 0 S ((X.rf, wo, ta, ow, 0, X.sh, X.lt, X.ty, X.pl, X.nu, X.od, X.tt, X.oo, X.on, X.wn, X.pd, X.li, X.rr, X.rn, X.dr) : ModN) K) rfl ?_
            rw [show nI (m + 1) = nI ((m + 1)) from congrArg nI (by omega)]
            exact ih50 (m + 1) (by omega) _ hnext
          · skip
            have hmo : outc S m := (out_iff hS h67.1).mpr (by rw [← hmw]; exact h67.2)
            have hmw2 := hmw.trans (out_wt hmo)
            refine ev_b bX7_rank_70_71 (lv' := [(6, .int (nI (m))), (5, .int (zI (i))), (0, .ref 0), (1, .int (nI (k))), (2, .int (nI (0))), (3, .int (zI (bfZ S q))), (4, .int (nI (q)))]) (st' := [.int (zI (bfZ S q))]) (w2 := modW 0 S ((X.rf, wo, ta, ow, 0, X.sh, X.lt, X.ty, X.pl, X.nu, X.od, X.tt, X.oo, X.on, X.wn, X.pd, X.li, X.rr, X.rn, X.dr) : ModN) K) rfl ?_
            refine ev_if_lt_z (tgt := 84) (by constructor <;> omega) dX7_rank_71 (by decide) (fun h71 => ?_) (fun h71 => ?_)
            · skip
              have hkm : (rankLs (keysOf S (packsN S S.ca)) q) < ((keyS S m : Nat) : Int) := by
                rcases hbf with ⟨-, -, h3⟩ | ⟨b, -, h2, -⟩
                · rw [h3]; omega
                · omega
              refine ev_b bX7_rank_84_86 (lv' := [(6, .int (nI (m))), (5, .int (zI (i))), (0, .ref 0), (1, .int (nI (k))), (2, .int (nI (0))), (3, .int (zI (bfZ S q))), (4, .int (nI (q)))]) (st' := [.int (zI (i))]) (w2 := modW 0 S ((X.rf, wo, ta, ow, 0, X.sh, X.lt, X.ty, X.pl, X.nu, X.od, X.tt, X.oo, X.on, X.wn, X.pd, X.li, X.rr, X.rn, X.dr) : ModN) K) rfl ?_
              refine ev_if_lt_z (tgt := 100) (by constructor <;> omega) dX7_rank_86 (by decide) (fun h86 => ?_) (fun h86 => ?_)
              · skip
                have hnext := nx_new hinv50 hmo hkm (fun b hb => by omega)
                refine ev_b bX7_rank_100_104 (lv' := [(5, .int (nI (m))), (6, .int (nI (m))), (0, .ref 0), (1, .int (nI (k))), (2, .int (nI (0))), (3, .int (zI (bfZ S q))), (4, .int (nI (q)))]) (st' := []) (w2 := modW 0 S ((X.rf, wo, ta, ow, 0, X.sh, X.lt, X.ty, X.pl, X.nu, X.od, X.tt, X.oo, X.on, X.wn, X.pd, X.li, X.rr, X.rn, X.dr) : ModN) K) rfl ?_
                refine ev_eq (lv' := [(5, .int (zI (((m : Nat) : Int)))), (6, .int (nI (m))), (0, .ref 0), (1, .int (nI (k))), (2, .int (nI (0))), (3, .int (zI (bfZ S q))), (4, .int (nI (q)))]) (by rw [zI_nat]) rfl rfl ?_
                refine ev_iinc_n (x := m) (v := 1) dX7_rank_104 rfl (by decide) ?_
                refine ev_eq (lv' := [(6, .int (nI (m + 1))), (5, .int (zI (((m : Nat) : Int)))), (0, .ref 0), (1, .int (nI (k))), (2, .int (nI (0))), (3, .int (zI (bfZ S q))), (4, .int (nI (q)))]) rfl rfl rfl ?_
                refine ev_b bX7_rank_107_50 (lv' := [(6, .int (nI (m + 1))), (5, .int (zI (((m : Nat) : Int)))), (0, .ref 0), (1, .int (nI (k))), (2, .int (nI (0))), (3, .int (zI (bfZ S q))), (4, .int (nI (q)))]) (st' := []) (w2 := modW 0 S ((X.rf, wo, ta, ow, 0, X.sh, X.lt, X.ty, X.pl, X.nu, X.od, X.tt, X.oo, X.on, X.wn, X.pd, X.li, X.rr, X.rn, X.dr) : ModN) K) rfl ?_
                rw [show nI (m + 1) = nI ((m + 1)) from congrArg nI (by omega)]
                exact ih50 (m + 1) (by omega) _ hnext
              · skip
                obtain ⟨bi, hbi, hbil, hbio, hbik, hbim⟩ : ∃ b : Nat, i = (b : Int) ∧ b < m ∧ outc S b ∧ (rankLs (keysOf S (packsN S S.ca)) q) < ((keyS S b : Nat) : Int) ∧ ∀ x, x < m → outc S x → (rankLs (keysOf S (packsN S S.ca)) q) < ((keyS S x : Nat) : Int) → keyS S b ≤ keyS S x := hinv50.resolve_left (fun z => by omega)
                have hbi2 := outc_lt hS hbio
                have hbiw := (hT bi (out_shl hbio)).1
                have hbib := wt_bnd hS bi
                have hai := ahead_key hS hmo hbio hmw2 (hbiw.trans (out_wt hbio))
                refine ev_eq (lv' := [(6, .int (nI (m))), (5, .int (nI (bi))), (0, .ref 0), (1, .int (nI (k))), (2, .int (nI (0))), (3, .int (zI (bfZ S q))), (4, .int (nI (q)))]) (by rw [hbi, zI_nat]) rfl rfl ?_
                refine ev_b bX7_rank_89_94 (lv' := [(6, .int (nI (m))), (5, .int (nI (bi))), (0, .ref 0), (1, .int (nI (k))), (2, .int (nI (0))), (3, .int (zI (bfZ S q))), (4, .int (nI (q)))]) (st' := [.int (nI (bi)), .int (nI (m)), .ref 0]) (w2 := modW 0 S ((X.rf, wo, ta, ow, 0, X.sh, X.lt, X.ty, X.pl, X.nu, X.od, X.tt, X.oo, X.on, X.wn, X.pd, X.li, X.rr, X.rn, X.dr) : ModN) K) rfl ?_
                refine ev_callM (Yc := mX7_isAhead) (st := []) dX7_rank_94 tw_1139 kX7_isAhead (m_X7_isAhead S ((X.rf, wo, ta, ow, 0, X.sh, X.lt, X.ty, X.pl, X.nu, X.od, X.tt, X.oo, X.on, X.wn, X.pd, X.li, X.rr, X.rn, X.dr) : ModN) K m bi (by omega) (by omega) (by show -1 ≤ wo m ∧ wo m ≤ 5000; omega) (by show -1 ≤ wo bi ∧ wo bi ≤ 5000; omega)) rfl rfl rfl rfl (by decide) (Nat.le_of_ble_eq_true rfl) (Nat.le_refl _) (Nat.le_refl _) (fun r w' h => by obtain ⟨-, rfl⟩ := h; exact mod_eq) ?_
                rintro _ _ ⟨rfl, rfl⟩
                refine ev_eq (lv' := [(6, .int (nI (m))), (5, .int (nI (bi))), (0, .ref 0), (1, .int (nI (k))), (2, .int (nI (0))), (3, .int (zI (bfZ S q))), (4, .int (nI (q)))]) (st' := [.int (nI (b01 (aheadZ wo m bi)))]) (w' := modW 0 S ((X.rf, wo, ta, ow, 0, X.sh, X.lt, X.ty, X.pl, X.nu, X.od, X.tt, X.oo, X.on, X.wn, X.pd, X.li, X.rr, X.rn, X.dr) : ModN) K) rfl rfl rfl ?_
                refine ev_ifeq_b (tgt := 104) dX7_rank_97 (by decide) (fun h97 => ?_) (fun h97 => ?_)
                · skip
                  have hnext := nx_old hinv50 hbi (Nat.not_lt.mp (fun z => h97 (hai.mpr z)))
                  rw [hbi] at hnext
                  refine ev_eq (lv' := [(6, .int (nI (m))), (5, .int (zI (((bi : Nat) : Int)))), (0, .ref 0), (1, .int (nI (k))), (2, .int (nI (0))), (3, .int (zI (bfZ S q))), (4, .int (nI (q)))]) (by rw [zI_nat]) rfl rfl ?_
                  refine ev_iinc_n (x := m) (v := 1) dX7_rank_104 rfl (by decide) ?_
                  refine ev_eq (lv' := [(6, .int (nI (m + 1))), (5, .int (zI (((bi : Nat) : Int)))), (0, .ref 0), (1, .int (nI (k))), (2, .int (nI (0))), (3, .int (zI (bfZ S q))), (4, .int (nI (q)))]) rfl rfl rfl ?_
                  refine ev_b bX7_rank_107_50 (lv' := [(6, .int (nI (m + 1))), (5, .int (zI (((bi : Nat) : Int)))), (0, .ref 0), (1, .int (nI (k))), (2, .int (nI (0))), (3, .int (zI (bfZ S q))), (4, .int (nI (q)))]) (st' := []) (w2 := modW 0 S ((X.rf, wo, ta, ow, 0, X.sh, X.lt, X.ty, X.pl, X.nu, X.od, X.tt, X.oo, X.on, X.wn, X.pd, X.li, X.rr, X.rn, X.dr) : ModN) K) rfl ?_
                  rw [show nI (m + 1) = nI ((m + 1)) from congrArg nI (by omega)]
                  exact ih50 (m + 1) (by omega) _ hnext
                · skip
                  have hnext := nx_new hinv50 hmo hkm (fun b hb => by rw [show b = bi by omega]; exact Nat.le_of_lt (hai.mp h97))
                  refine ev_b bX7_rank_100_104 (lv' := [(5, .int (nI (m))), (6, .int (nI (m))), (0, .ref 0), (1, .int (nI (k))), (2, .int (nI (0))), (3, .int (zI (bfZ S q))), (4, .int (nI (q)))]) (st' := []) (w2 := modW 0 S ((X.rf, wo, ta, ow, 0, X.sh, X.lt, X.ty, X.pl, X.nu, X.od, X.tt, X.oo, X.on, X.wn, X.pd, X.li, X.rr, X.rn, X.dr) : ModN) K) rfl ?_
                  refine ev_eq (lv' := [(5, .int (zI (((m : Nat) : Int)))), (6, .int (nI (m))), (0, .ref 0), (1, .int (nI (k))), (2, .int (nI (0))), (3, .int (zI (bfZ S q))), (4, .int (nI (q)))]) (by rw [zI_nat]) rfl rfl ?_
                  refine ev_iinc_n (x := m) (v := 1) dX7_rank_104 rfl (by decide) ?_
                  refine ev_eq (lv' := [(6, .int (nI (m + 1))), (5, .int (zI (((m : Nat) : Int)))), (0, .ref 0), (1, .int (nI (k))), (2, .int (nI (0))), (3, .int (zI (bfZ S q))), (4, .int (nI (q)))]) rfl rfl rfl ?_
                  refine ev_b bX7_rank_107_50 (lv' := [(6, .int (nI (m + 1))), (5, .int (zI (((m : Nat) : Int)))), (0, .ref 0), (1, .int (nI (k))), (2, .int (nI (0))), (3, .int (zI (bfZ S q))), (4, .int (nI (q)))]) (st' := []) (w2 := modW 0 S ((X.rf, wo, ta, ow, 0, X.sh, X.lt, X.ty, X.pl, X.nu, X.od, X.tt, X.oo, X.on, X.wn, X.pd, X.li, X.rr, X.rn, X.dr) : ModN) K) rfl ?_
                  rw [show nI (m + 1) = nI ((m + 1)) from congrArg nI (by omega)]
                  exact ih50 (m + 1) (by omega) _ hnext
            · skip
              obtain ⟨bq, hbq, ebq, ekq⟩ : ∃ b, outc S b ∧ bfZ S q = ((b : Nat) : Int) ∧ (rankLs (keysOf S (packsN S S.ca)) q) = ((keyS S b : Nat) : Int) := hbf.resolve_left (fun z => by omega)
              have hbql := outc_lt hS hbq
              have hbqw := (hT bq (out_shl hbq)).1
              have hbqb := wt_bnd hS bq
              have hak := ahead_key hS hbq hmo (hbqw.trans (out_wt hbq)) hmw2
              refine ev_eq (lv' := [(6, .int (nI (m))), (5, .int (zI (i))), (0, .ref 0), (1, .int (nI (k))), (2, .int (nI (0))), (3, .int (nI (bq))), (4, .int (nI (q)))]) (by rw [ebq, zI_nat]) rfl rfl ?_
              refine ev_b bX7_rank_74_78 (lv' := [(6, .int (nI (m))), (5, .int (zI (i))), (0, .ref 0), (1, .int (nI (k))), (2, .int (nI (0))), (3, .int (nI (bq))), (4, .int (nI (q)))]) (st' := [.int (nI (m)), .int (nI (bq)), .ref 0]) (w2 := modW 0 S ((X.rf, wo, ta, ow, 0, X.sh, X.lt, X.ty, X.pl, X.nu, X.od, X.tt, X.oo, X.on, X.wn, X.pd, X.li, X.rr, X.rn, X.dr) : ModN) K) rfl ?_
              refine ev_callM (Yc := mX7_isAhead) (st := []) dX7_rank_78 tw_1139 kX7_isAhead (m_X7_isAhead S ((X.rf, wo, ta, ow, 0, X.sh, X.lt, X.ty, X.pl, X.nu, X.od, X.tt, X.oo, X.on, X.wn, X.pd, X.li, X.rr, X.rn, X.dr) : ModN) K bq m (by omega) (by omega) (by show -1 ≤ wo bq ∧ wo bq ≤ 5000; omega) (by show -1 ≤ wo m ∧ wo m ≤ 5000; omega)) rfl rfl rfl rfl (by decide) (Nat.le_of_ble_eq_true rfl) (Nat.le_refl _) (Nat.le_refl _) (fun r w' h => by obtain ⟨-, rfl⟩ := h; exact mod_eq) ?_
              rintro _ _ ⟨rfl, rfl⟩
              refine ev_eq (lv' := [(6, .int (nI (m))), (5, .int (zI (i))), (0, .ref 0), (1, .int (nI (k))), (2, .int (nI (0))), (3, .int (nI (bq))), (4, .int (nI (q)))]) (st' := [.int (nI (b01 (aheadZ wo bq m)))]) (w' := modW 0 S ((X.rf, wo, ta, ow, 0, X.sh, X.lt, X.ty, X.pl, X.nu, X.od, X.tt, X.oo, X.on, X.wn, X.pd, X.li, X.rr, X.rn, X.dr) : ModN) K) rfl rfl rfl ?_
              refine ev_ifeq_b (tgt := 104) dX7_rank_81 (by decide) (fun h81 => ?_) (fun h81 => ?_)
              · skip
                have hnext := nx_skip hinv50 (fun _ => by rw [ekq]; have := fun z => h81 (hak.mpr z); omega)
                refine ev_eq (lv' := [(6, .int (nI (m))), (5, .int (zI (i))), (0, .ref 0), (1, .int (nI (k))), (2, .int (nI (0))), (3, .int (zI (bfZ S q))), (4, .int (nI (q)))]) (by rw [ebq, zI_nat]) rfl rfl ?_
                refine ev_iinc_n (x := m) (v := 1) dX7_rank_104 rfl (by decide) ?_
                refine ev_eq (lv' := [(6, .int (nI (m + 1))), (5, .int (zI (i))), (0, .ref 0), (1, .int (nI (k))), (2, .int (nI (0))), (3, .int (zI (bfZ S q))), (4, .int (nI (q)))]) rfl rfl rfl ?_
                refine ev_b bX7_rank_107_50 (lv' := [(6, .int (nI (m + 1))), (5, .int (zI (i))), (0, .ref 0), (1, .int (nI (k))), (2, .int (nI (0))), (3, .int (zI (bfZ S q))), (4, .int (nI (q)))]) (st' := []) (w2 := modW 0 S ((X.rf, wo, ta, ow, 0, X.sh, X.lt, X.ty, X.pl, X.nu, X.od, X.tt, X.oo, X.on, X.wn, X.pd, X.li, X.rr, X.rn, X.dr) : ModN) K) rfl ?_
                rw [show nI (m + 1) = nI ((m + 1)) from congrArg nI (by omega)]
                exact ih50 (m + 1) (by omega) _ hnext
              · skip
                have hkm : (rankLs (keysOf S (packsN S S.ca)) q) < ((keyS S m : Nat) : Int) := by rw [ekq]; have := hak.mp h81; omega
                refine ev_eq (lv' := [(6, .int (nI (m))), (5, .int (zI (i))), (0, .ref 0), (1, .int (nI (k))), (2, .int (nI (0))), (3, .int (zI (bfZ S q))), (4, .int (nI (q)))]) (by rw [ebq, zI_nat]) rfl rfl ?_
                refine ev_b bX7_rank_84_86 (lv' := [(6, .int (nI (m))), (5, .int (zI (i))), (0, .ref 0), (1, .int (nI (k))), (2, .int (nI (0))), (3, .int (zI (bfZ S q))), (4, .int (nI (q)))]) (st' := [.int (zI (i))]) (w2 := modW 0 S ((X.rf, wo, ta, ow, 0, X.sh, X.lt, X.ty, X.pl, X.nu, X.od, X.tt, X.oo, X.on, X.wn, X.pd, X.li, X.rr, X.rn, X.dr) : ModN) K) rfl ?_
                refine ev_if_lt_z (tgt := 100) (by constructor <;> omega) dX7_rank_86 (by decide) (fun h86 => ?_) (fun h86 => ?_)
                · skip
                  have hnext := nx_new hinv50 hmo hkm (fun b hb => by omega)
                  refine ev_b bX7_rank_100_104 (lv' := [(5, .int (nI (m))), (6, .int (nI (m))), (0, .ref 0), (1, .int (nI (k))), (2, .int (nI (0))), (3, .int (zI (bfZ S q))), (4, .int (nI (q)))]) (st' := []) (w2 := modW 0 S ((X.rf, wo, ta, ow, 0, X.sh, X.lt, X.ty, X.pl, X.nu, X.od, X.tt, X.oo, X.on, X.wn, X.pd, X.li, X.rr, X.rn, X.dr) : ModN) K) rfl ?_
                  refine ev_eq (lv' := [(5, .int (zI (((m : Nat) : Int)))), (6, .int (nI (m))), (0, .ref 0), (1, .int (nI (k))), (2, .int (nI (0))), (3, .int (zI (bfZ S q))), (4, .int (nI (q)))]) (by rw [zI_nat]) rfl rfl ?_
                  refine ev_iinc_n (x := m) (v := 1) dX7_rank_104 rfl (by decide) ?_
                  refine ev_eq (lv' := [(6, .int (nI (m + 1))), (5, .int (zI (((m : Nat) : Int)))), (0, .ref 0), (1, .int (nI (k))), (2, .int (nI (0))), (3, .int (zI (bfZ S q))), (4, .int (nI (q)))]) rfl rfl rfl ?_
                  refine ev_b bX7_rank_107_50 (lv' := [(6, .int (nI (m + 1))), (5, .int (zI (((m : Nat) : Int)))), (0, .ref 0), (1, .int (nI (k))), (2, .int (nI (0))), (3, .int (zI (bfZ S q))), (4, .int (nI (q)))]) (st' := []) (w2 := modW 0 S ((X.rf, wo, ta, ow, 0, X.sh, X.lt, X.ty, X.pl, X.nu, X.od, X.tt, X.oo, X.on, X.wn, X.pd, X.li, X.rr, X.rn, X.dr) : ModN) K) rfl ?_
                  rw [show nI (m + 1) = nI ((m + 1)) from congrArg nI (by omega)]
                  exact ih50 (m + 1) (by omega) _ hnext
                · skip
                  obtain ⟨bi, hbi, hbil, hbio, hbik, hbim⟩ : ∃ b : Nat, i = (b : Int) ∧ b < m ∧ outc S b ∧ (rankLs (keysOf S (packsN S S.ca)) q) < ((keyS S b : Nat) : Int) ∧ ∀ x, x < m → outc S x → (rankLs (keysOf S (packsN S S.ca)) q) < ((keyS S x : Nat) : Int) → keyS S b ≤ keyS S x := hinv50.resolve_left (fun z => by omega)
                  have hbi2 := outc_lt hS hbio
                  have hbiw := (hT bi (out_shl hbio)).1
                  have hbib := wt_bnd hS bi
                  have hai := ahead_key hS hmo hbio hmw2 (hbiw.trans (out_wt hbio))
                  refine ev_eq (lv' := [(6, .int (nI (m))), (5, .int (nI (bi))), (0, .ref 0), (1, .int (nI (k))), (2, .int (nI (0))), (3, .int (zI (bfZ S q))), (4, .int (nI (q)))]) (by rw [hbi, zI_nat]) rfl rfl ?_
                  refine ev_b bX7_rank_89_94 (lv' := [(6, .int (nI (m))), (5, .int (nI (bi))), (0, .ref 0), (1, .int (nI (k))), (2, .int (nI (0))), (3, .int (zI (bfZ S q))), (4, .int (nI (q)))]) (st' := [.int (nI (bi)), .int (nI (m)), .ref 0]) (w2 := modW 0 S ((X.rf, wo, ta, ow, 0, X.sh, X.lt, X.ty, X.pl, X.nu, X.od, X.tt, X.oo, X.on, X.wn, X.pd, X.li, X.rr, X.rn, X.dr) : ModN) K) rfl ?_
                  refine ev_callM (Yc := mX7_isAhead) (st := []) dX7_rank_94 tw_1139 kX7_isAhead (m_X7_isAhead S ((X.rf, wo, ta, ow, 0, X.sh, X.lt, X.ty, X.pl, X.nu, X.od, X.tt, X.oo, X.on, X.wn, X.pd, X.li, X.rr, X.rn, X.dr) : ModN) K m bi (by omega) (by omega) (by show -1 ≤ wo m ∧ wo m ≤ 5000; omega) (by show -1 ≤ wo bi ∧ wo bi ≤ 5000; omega)) rfl rfl rfl rfl (by decide) (Nat.le_of_ble_eq_true rfl) (Nat.le_refl _) (Nat.le_refl _) (fun r w' h => by obtain ⟨-, rfl⟩ := h; exact mod_eq) ?_
                  rintro _ _ ⟨rfl, rfl⟩
                  refine ev_eq (lv' := [(6, .int (nI (m))), (5, .int (nI (bi))), (0, .ref 0), (1, .int (nI (k))), (2, .int (nI (0))), (3, .int (zI (bfZ S q))), (4, .int (nI (q)))]) (st' := [.int (nI (b01 (aheadZ wo m bi)))]) (w' := modW 0 S ((X.rf, wo, ta, ow, 0, X.sh, X.lt, X.ty, X.pl, X.nu, X.od, X.tt, X.oo, X.on, X.wn, X.pd, X.li, X.rr, X.rn, X.dr) : ModN) K) rfl rfl rfl ?_
                  refine ev_ifeq_b (tgt := 104) dX7_rank_97 (by decide) (fun h97 => ?_) (fun h97 => ?_)
                  · skip
                    have hnext := nx_old hinv50 hbi (Nat.not_lt.mp (fun z => h97 (hai.mpr z)))
                    rw [hbi] at hnext
                    refine ev_eq (lv' := [(6, .int (nI (m))), (5, .int (zI (((bi : Nat) : Int)))), (0, .ref 0), (1, .int (nI (k))), (2, .int (nI (0))), (3, .int (zI (bfZ S q))), (4, .int (nI (q)))]) (by rw [zI_nat]) rfl rfl ?_
                    refine ev_iinc_n (x := m) (v := 1) dX7_rank_104 rfl (by decide) ?_
                    refine ev_eq (lv' := [(6, .int (nI (m + 1))), (5, .int (zI (((bi : Nat) : Int)))), (0, .ref 0), (1, .int (nI (k))), (2, .int (nI (0))), (3, .int (zI (bfZ S q))), (4, .int (nI (q)))]) rfl rfl rfl ?_
                    refine ev_b bX7_rank_107_50 (lv' := [(6, .int (nI (m + 1))), (5, .int (zI (((bi : Nat) : Int)))), (0, .ref 0), (1, .int (nI (k))), (2, .int (nI (0))), (3, .int (zI (bfZ S q))), (4, .int (nI (q)))]) (st' := []) (w2 := modW 0 S ((X.rf, wo, ta, ow, 0, X.sh, X.lt, X.ty, X.pl, X.nu, X.od, X.tt, X.oo, X.on, X.wn, X.pd, X.li, X.rr, X.rn, X.dr) : ModN) K) rfl ?_
                    rw [show nI (m + 1) = nI ((m + 1)) from congrArg nI (by omega)]
                    exact ih50 (m + 1) (by omega) _ hnext
                  · skip
                    have hnext := nx_new hinv50 hmo hkm (fun b hb => by rw [show b = bi by omega]; exact Nat.le_of_lt (hai.mp h97))
                    refine ev_b bX7_rank_100_104 (lv' := [(5, .int (nI (m))), (6, .int (nI (m))), (0, .ref 0), (1, .int (nI (k))), (2, .int (nI (0))), (3, .int (zI (bfZ S q))), (4, .int (nI (q)))]) (st' := []) (w2 := modW 0 S ((X.rf, wo, ta, ow, 0, X.sh, X.lt, X.ty, X.pl, X.nu, X.od, X.tt, X.oo, X.on, X.wn, X.pd, X.li, X.rr, X.rn, X.dr) : ModN) K) rfl ?_
                    refine ev_eq (lv' := [(5, .int (zI (((m : Nat) : Int)))), (6, .int (nI (m))), (0, .ref 0), (1, .int (nI (k))), (2, .int (nI (0))), (3, .int (zI (bfZ S q))), (4, .int (nI (q)))]) (by rw [zI_nat]) rfl rfl ?_
                    refine ev_iinc_n (x := m) (v := 1) dX7_rank_104 rfl (by decide) ?_
                    refine ev_eq (lv' := [(6, .int (nI (m + 1))), (5, .int (zI (((m : Nat) : Int)))), (0, .ref 0), (1, .int (nI (k))), (2, .int (nI (0))), (3, .int (zI (bfZ S q))), (4, .int (nI (q)))]) rfl rfl rfl ?_
                    refine ev_b bX7_rank_107_50 (lv' := [(6, .int (nI (m + 1))), (5, .int (zI (((m : Nat) : Int)))), (0, .ref 0), (1, .int (nI (k))), (2, .int (nI (0))), (3, .int (zI (bfZ S q))), (4, .int (nI (q)))]) (st' := []) (w2 := modW 0 S ((X.rf, wo, ta, ow, 0, X.sh, X.lt, X.ty, X.pl, X.nu, X.od, X.tt, X.oo, X.on, X.wn, X.pd, X.li, X.rr, X.rn, X.dr) : ModN) K) rfl ?_
                    rw [show nI (m + 1) = nI ((m + 1)) from congrArg nI (by omega)]
                    exact ih50 (m + 1) (by omega) _ hnext
      refine ev_pick (lv' := [(6, .int (nI (0))), (5, .int (zI (-9))), (0, .ref 0), (1, .int (nI (k))), (2, .int (nI (0))), (3, .int (zI (bfZ S q))), (4, .int (nI (q)))]) rfl ?_
      exact L50 (1 <<< S.ca) 0 (by omega) (-9) nx_start
  rw [show zI (-9) = zI (bfZ S 0) from congrArg zI (by exact rfl)]
  exact L37 ((keysOf S (packsN S S.ca)).length) 0 (by omega) 
theorem bX7_rank_127_128 {l : Launch} {E : XE} : Snd l E mX7_rank 127 128 (xs [x_iload 2]) := Snd.cons (snd_iload_n (i := 2) dX7_rank_127 rfl) Snd.nil
theorem bX7_rank_131_141 {l : Launch} {E : XE} : Snd l E mX7_rank 131 141 (xs [x_iload 3, x_id]) := Snd.cons (snd_iload_n (i := 3) dX7_rank_131 rfl) (Snd.cons (snd_goto (tgt := 141) dX7_rank_132 (by decide)) Snd.nil)
set_option maxHeartbeats 4000000 in
set_option maxRecDepth 100000 in
theorem q_rank_w0 {l : Launch} {E : XE} (S : SaleN) (X : ModN) (K : Option (Nat → Nat)) (k : Nat) (hS : SaleOK S) (hM : MOK S X) (hk : k < 2147483648) (h : k < (keysOf S (packsN S S.ca)).length) : MetE l E mX7_rank (4) 0 0 [.ref 0, .int (nI (k)), .int (nI (0))] (modW 0 S X K) (MP S K (X.lt) (X.ty) (X.rr) (X.rn) (X.rf) (some (.int (nI (bidsN (nextLs (keysOf S (packsN S S.ca)) (rankLs (keysOf S (packsN S S.ca)) k))))))) := by
  refine MetE.of (by decide +kernel) (Nat.le_of_ble_eq_true rfl) ?_
  have hca := hS.1
  have hpw := pow_ca hS
  have hac := ac_lt hS
  have hshl := shl_le hS
  have hkl : (keysOf S (packsN S S.ca)).length ≤ 1024 := Nat.le_trans keysOf_len (Nat.le_trans (packsN_len S _) hpw)
  refine ev_eq (lv' := [(0, .ref 0), (1, .int (nI (k))), (2, .int (nI (0)))]) (st' := []) (w' := modW 0 S X K) rfl rfl rfl ?_
  refine ev_b bX7_rank_0_1 (lv' := [(0, .ref 0), (1, .int (nI (k))), (2, .int (nI (0)))]) (st' := [.int (nI (k))]) (w2 := modW 0 S X K) rfl ?_
  refine ev_if_ge_n (tgt := 11) (by omega) dX7_rank_1 (by decide) (fun h1 => ?_) (fun h1 => (by exfalso; omega))
  refine ev_b bX7_rank_11_14 (lv' := [(0, .ref 0), (1, .int (nI (k))), (2, .int (nI (0)))]) (st' := [.int (nI (1)), .int (nI (0)), .int (nI (0))]) (w2 := modW 0 S X K) rfl ?_
  refine ev_callS (Yc := mX7_isIn) [] dX7_rank_14 tw_1036 kX7_isIn (m_X7_isIn_n 0 0 1 (by decide) (by decide) (by decide)) rfl (st := []) rfl (by decide) rfl (by decide) (Nat.le_of_ble_eq_true rfl) (Nat.le_refl _) (Nat.le_refl _) (fun r w' h => by obtain ⟨-, rfl⟩ := h; exact Nat.le_of_ble_eq_true rfl) ?_
  rintro _ _ ⟨rfl, rfl⟩
  refine ev_eq (lv' := [(0, .ref 0), (1, .int (nI (k))), (2, .int (nI (0)))]) (st' := [.int (nI (b01 (0 ≤ 0 ∧ 0 ≤ 1)))]) (w' := modW 0 S X K) rfl rfl rfl ?_
  refine ev_ifne_b (tgt := 27) dX7_rank_17 (by decide) (fun h17 => ?_) (fun h17 => (by exfalso; omega))
  refine ev_b bX7_rank_27_28 (lv' := [(0, .ref 0), (1, .int (nI (k))), (2, .int (nI (0)))]) (st' := [.ref 0]) (w2 := modW 0 S X K) rfl ?_
  refine ev_callM (Yc := mX7_table) (st := []) dX7_rank_28 tw_1112 kX7_table (m_X7_table_g S S.kd S.fg X K hS (kf_self hM.1) hM.2) rfl rfl rfl rfl (by decide) (Nat.le_of_ble_eq_true rfl) (Nat.le_refl _) (Nat.le_refl _) (fun r w' h => by obtain ⟨-, wo, ta, ow, rfl, -⟩ := h; exact mod_eq) ?_
  rintro _ _ ⟨rfl, wo, ta, ow, rfl, hT⟩
  refine ev_eq (lv' := [(0, .ref 0), (1, .int (nI (k))), (2, .int (nI (0)))]) (st' := []) (w' := modW 0 S ((X.rf, wo, ta, ow, 0, X.sh, X.lt, X.ty, X.pl, X.nu, X.od, X.tt, X.oo, X.on, X.wn, X.pd, X.li, X.rr, X.rn, X.dr) : ModN) K) rfl rfl rfl ?_
  refine ev_b bX7_rank_31_34 (lv' := [(3, .int (-9)), (0, .ref 0), (1, .int (nI (k))), (2, .int (nI (0)))]) (st' := []) (w2 := modW 0 S ((X.rf, wo, ta, ow, 0, X.sh, X.lt, X.ty, X.pl, X.nu, X.od, X.tt, X.oo, X.on, X.wn, X.pd, X.li, X.rr, X.rn, X.dr) : ModN) K) rfl ?_
  refine ev_eq (lv' := [(3, .int (zI (-9))), (0, .ref 0), (1, .int (nI (k))), (2, .int (nI (0)))]) (by rw [show (-9 : Int32) = zI (-9) from by decide]) rfl rfl ?_
  refine ev_b bX7_rank_34_37 (lv' := [(4, .int (nI (0))), (3, .int (zI (-9))), (0, .ref 0), (1, .int (nI (k))), (2, .int (nI (0)))]) (st' := []) (w2 := modW 0 S ((X.rf, wo, ta, ow, 0, X.sh, X.lt, X.ty, X.pl, X.nu, X.od, X.tt, X.oo, X.on, X.wn, X.pd, X.li, X.rr, X.rn, X.dr) : ModN) K) rfl ?_
  have L37 : ∀ (j_ q : Nat), q + j_ = k + 1 → Ev l E mX7_rank (4) 0 0 (modW 0 S X K) (MP S K (X.lt) (X.ty) (X.rr) (X.rn) (X.rf) (some (.int (nI (bidsN (nextLs (keysOf S (packsN S S.ca)) (rankLs (keysOf S (packsN S S.ca)) k))))))) 0 0 37 [(4, .int (nI (q))), (3, .int (zI (bfZ S q))), (0, .ref 0), (1, .int (nI (k))), (2, .int (nI (0)))] [] (modW 0 S ((X.rf, wo, ta, ow, 0, X.sh, X.lt, X.ty, X.pl, X.nu, X.od, X.tt, X.oo, X.on, X.wn, X.pd, X.li, X.rr, X.rn, X.dr) : ModN) K) := by
    intro j_
    induction j_ with
    | zero =>
      intro q hk37  
      replace hk37 : q = k + 1 := hk37
      have hqk : q ≤ (keysOf S (packsN S S.ca)).length := by omega
      have hbf := bf_key hS hqk
      have hbb : -9 ≤ bfZ S q ∧ bfZ S q < 1024 := by
        rcases hbf with ⟨-, h2, -⟩ | ⟨b, h1, h2, -⟩
        · omega
        · have := outc_lt hS h1; omega
      refine ev_b bX7_rank_37_40 (lv' := [(4, .int (nI (q))), (3, .int (zI (bfZ S q))), (0, .ref 0), (1, .int (nI (k))), (2, .int (nI (0)))]) (st' := [.int (nI (k)), .int (nI (q))]) (w2 := modW 0 S ((X.rf, wo, ta, ow, 0, X.sh, X.lt, X.ty, X.pl, X.nu, X.od, X.tt, X.oo, X.on, X.wn, X.pd, X.li, X.rr, X.rn, X.dr) : ModN) K) rfl ?_
      refine ev_icmp_gt_n (tgt := 127) (by omega) (by omega) dX7_rank_40 (by decide) (fun h40 => ?_) (fun h40 => (by exfalso; omega))
      obtain ⟨bk, hbk, ek, ebk, ewk⟩ := rk_at hS h
      have hq1 : q = k + 1 := hk37
      have hbkl := outc_lt hS hbk
      refine ev_eq (lv' := [(4, .int (nI (q))), (3, .int (nI (bk))), (0, .ref 0), (1, .int (nI (k))), (2, .int (nI (0)))]) (by rw [hq1, show bfZ S (k + 1) = ((bidsN (nextLs (keysOf S (packsN S S.ca)) (rankLs (keysOf S (packsN S S.ca)) k)) : Nat) : Int) from rfl, ek, ebk, zI_nat]) rfl rfl ?_
      refine ev_b bX7_rank_127_128 (lv' := [(4, .int (nI (q))), (3, .int (nI (bk))), (0, .ref 0), (1, .int (nI (k))), (2, .int (nI (0)))]) (st' := [.int (nI (0))]) (w2 := modW 0 S ((X.rf, wo, ta, ow, 0, X.sh, X.lt, X.ty, X.pl, X.nu, X.od, X.tt, X.oo, X.on, X.wn, X.pd, X.li, X.rr, X.rn, X.dr) : ModN) K) rfl ?_
      refine ev_if_ne_n (tgt := 135) (by decide) dX7_rank_128 (by decide) (fun h128 => (by exfalso; omega)) (fun h128 => ?_)
      refine ev_b bX7_rank_131_141 (lv' := [(4, .int (nI (q))), (3, .int (nI (bk))), (0, .ref 0), (1, .int (nI (k))), (2, .int (nI (0)))]) (st' := [.int (nI (bk))]) (w2 := modW 0 S ((X.rf, wo, ta, ow, 0, X.sh, X.lt, X.ty, X.pl, X.nu, X.od, X.tt, X.oo, X.on, X.wn, X.pd, X.li, X.rr, X.rn, X.dr) : ModN) K) rfl ?_
      exact ev_iret dX7_rank_141 rfl mod_le (Nat.le_refl _) (Nat.le_refl _) ⟨by first | rfl | (rw [ek, ebk]), _, rfl, mok_fresh hM.1 rfl hT, rfl, rfl, rfl, rfl, rfl⟩
    | succ j_ ih37 =>
      intro q hk37  
      have hlt37 : q < k + 1 := by omega
      have hqk : q ≤ (keysOf S (packsN S S.ca)).length := by omega
      have hbf := bf_key hS hqk
      have hbb : -9 ≤ bfZ S q ∧ bfZ S q < 1024 := by
        rcases hbf with ⟨-, h2, -⟩ | ⟨b, h1, h2, -⟩
        · omega
        · have := outc_lt hS h1; omega
      refine ev_b bX7_rank_37_40 (lv' := [(4, .int (nI (q))), (3, .int (zI (bfZ S q))), (0, .ref 0), (1, .int (nI (k))), (2, .int (nI (0)))]) (st' := [.int (nI (k)), .int (nI (q))]) (w2 := modW 0 S ((X.rf, wo, ta, ow, 0, X.sh, X.lt, X.ty, X.pl, X.nu, X.od, X.tt, X.oo, X.on, X.wn, X.pd, X.li, X.rr, X.rn, X.dr) : ModN) K) rfl ?_
      refine ev_icmp_gt_n (tgt := 127) (by omega) (by omega) dX7_rank_40 (by decide) (fun h40 => (by exfalso; omega)) (fun h40 => ?_)
      refine ev_b bX7_rank_43_47 (lv' := [(5, .int (-9)), (4, .int (nI (q))), (3, .int (zI (bfZ S q))), (0, .ref 0), (1, .int (nI (k))), (2, .int (nI (0)))]) (st' := []) (w2 := modW 0 S ((X.rf, wo, ta, ow, 0, X.sh, X.lt, X.ty, X.pl, X.nu, X.od, X.tt, X.oo, X.on, X.wn, X.pd, X.li, X.rr, X.rn, X.dr) : ModN) K) rfl ?_
      refine ev_eq (lv' := [(5, .int (zI (-9))), (4, .int (nI (q))), (3, .int (zI (bfZ S q))), (0, .ref 0), (1, .int (nI (k))), (2, .int (nI (0)))]) (by rw [show (-9 : Int32) = zI (-9) from by decide]) rfl rfl ?_
      refine ev_b bX7_rank_47_50 (lv' := [(6, .int (nI (0))), (5, .int (zI (-9))), (4, .int (nI (q))), (3, .int (zI (bfZ S q))), (0, .ref 0), (1, .int (nI (k))), (2, .int (nI (0)))]) (st' := []) (w2 := modW 0 S ((X.rf, wo, ta, ow, 0, X.sh, X.lt, X.ty, X.pl, X.nu, X.od, X.tt, X.oo, X.on, X.wn, X.pd, X.li, X.rr, X.rn, X.dr) : ModN) K) rfl ?_
      have L50 : ∀ (j_ m : Nat), m + j_ = 1 <<< S.ca → ∀ (i : Int), (NxI S (rankLs (keysOf S (packsN S S.ca)) q) m i) → Ev l E mX7_rank (4) 0 0 (modW 0 S X K) (MP S K (X.lt) (X.ty) (X.rr) (X.rn) (X.rf) (some (.int (nI (bidsN (nextLs (keysOf S (packsN S S.ca)) (rankLs (keysOf S (packsN S S.ca)) k))))))) 0 0 50 [(6, .int (nI (m))), (5, .int (zI (i))), (0, .ref 0), (1, .int (nI (k))), (2, .int (nI (0))), (3, .int (zI (bfZ S q))), (4, .int (nI (q)))] [] (modW 0 S ((X.rf, wo, ta, ow, 0, X.sh, X.lt, X.ty, X.pl, X.nu, X.od, X.tt, X.oo, X.on, X.wn, X.pd, X.li, X.rr, X.rn, X.dr) : ModN) K) := by
        intro j_
        induction j_ with
        | zero =>
          intro m hk50 i hinv50
          replace hk50 : m = 1 <<< S.ca := hk50
          subst hk50
          refine ev_b bX7_rank_50_57 (lv' := [(6, .int (nI ((1 <<< S.ca)))), (5, .int (zI (i))), (0, .ref 0), (1, .int (nI (k))), (2, .int (nI (0))), (3, .int (zI (bfZ S q))), (4, .int (nI (q)))]) (st' := [.int (nI (S.ca)), .int (nI (1)), .int (nI ((1 <<< S.ca)))]) (w2 := modW 0 S ((X.rf, wo, ta, ow, 0, X.sh, X.lt, X.ty, X.pl, X.nu, X.od, X.tt, X.oo, X.on, X.wn, X.pd, X.li, X.rr, X.rn, X.dr) : ModN) K) rfl ?_
          refine ev_ishl_n (by omega) dX7_rank_57 ?_
          refine ev_icmp_ge_n (tgt := 110) (by omega) (by omega) dX7_rank_58 (by decide) (fun h58 => ?_) (fun h58 => (by exfalso; omega))
          have hib := nx_bnd hinv50
          have hsm : q < (keysOf S (packsN S S.ca)).length → 0 ≤ i := fun z => (nx_some hS hinv50 z).1
          refine ev_b bX7_rank_110_112 (lv' := [(6, .int (nI ((1 <<< S.ca)))), (5, .int (zI (i))), (0, .ref 0), (1, .int (nI (k))), (2, .int (nI (0))), (3, .int (zI (bfZ S q))), (4, .int (nI (q)))]) (st' := [.int (zI (i))]) (w2 := modW 0 S ((X.rf, wo, ta, ow, 0, X.sh, X.lt, X.ty, X.pl, X.nu, X.od, X.tt, X.oo, X.on, X.wn, X.pd, X.li, X.rr, X.rn, X.dr) : ModN) K) rfl ?_
          refine ev_if_ge_z (tgt := 118) (by constructor <;> omega) dX7_rank_112 (by decide) (fun h112 => ?_) (fun h112 => (by exfalso; omega))
          refine ev_b bX7_rank_118_121 (lv' := [(3, .int (zI (i))), (6, .int (nI ((1 <<< S.ca)))), (5, .int (zI (i))), (0, .ref 0), (1, .int (nI (k))), (2, .int (nI (0))), (4, .int (nI (q)))]) (st' := []) (w2 := modW 0 S ((X.rf, wo, ta, ow, 0, X.sh, X.lt, X.ty, X.pl, X.nu, X.od, X.tt, X.oo, X.on, X.wn, X.pd, X.li, X.rr, X.rn, X.dr) : ModN) K) rfl ?_
          refine ev_iinc_n (x := q) (v := 1) dX7_rank_121 rfl (by decide) ?_
          refine ev_eq (lv' := [(4, .int (nI (q + 1))), (3, .int (zI (i))), (6, .int (nI ((1 <<< S.ca)))), (5, .int (zI (i))), (0, .ref 0), (1, .int (nI (k))), (2, .int (nI (0)))]) rfl rfl rfl ?_
          refine ev_b bX7_rank_124_37 (lv' := [(4, .int (nI (q + 1))), (3, .int (zI (i))), (6, .int (nI ((1 <<< S.ca)))), (5, .int (zI (i))), (0, .ref 0), (1, .int (nI (k))), (2, .int (nI (0)))]) (st' := []) (w2 := modW 0 S ((X.rf, wo, ta, ow, 0, X.sh, X.lt, X.ty, X.pl, X.nu, X.od, X.tt, X.oo, X.on, X.wn, X.pd, X.li, X.rr, X.rn, X.dr) : ModN) K) rfl ?_
          refine ev_pick (lv' := [(4, .int (nI (q + 1))), (3, .int (zI (i))), (0, .ref 0), (1, .int (nI (k))), (2, .int (nI (0)))]) rfl ?_
          rw [show nI (q + 1) = nI ((q + 1)) from congrArg nI (by omega)]
          rw [show zI (i) = zI (bfZ S (q + 1)) from congrArg zI (by exact (nx_some hS hinv50 (by omega)).2)]
          exact ih37 (q + 1) (by omega) 
        | succ j_ ih50 =>
          intro m hk50 i hinv50
          have hlt50 : m < 1 <<< S.ca := by omega
          have hmw := (hT m hlt50).1
          have hmb := wt_bnd hS m
          have hib := nx_bnd hinv50
          refine ev_b bX7_rank_50_57 (lv' := [(6, .int (nI (m))), (5, .int (zI (i))), (0, .ref 0), (1, .int (nI (k))), (2, .int (nI (0))), (3, .int (zI (bfZ S q))), (4, .int (nI (q)))]) (st' := [.int (nI (S.ca)), .int (nI (1)), .int (nI (m))]) (w2 := modW 0 S ((X.rf, wo, ta, ow, 0, X.sh, X.lt, X.ty, X.pl, X.nu, X.od, X.tt, X.oo, X.on, X.wn, X.pd, X.li, X.rr, X.rn, X.dr) : ModN) K) rfl ?_
          refine ev_ishl_n (by omega) dX7_rank_57 ?_
          refine ev_icmp_ge_n (tgt := 110) (by omega) (by omega) dX7_rank_58 (by decide) (fun h58 => (by exfalso; omega)) (fun h58 => ?_)
          refine ev_b bX7_rank_61_64 (lv' := [(6, .int (nI (m))), (5, .int (zI (i))), (0, .ref 0), (1, .int (nI (k))), (2, .int (nI (0))), (3, .int (zI (bfZ S q))), (4, .int (nI (q)))]) (st' := [.int (nI (m)), .ref 0]) (w2 := modW 0 S ((X.rf, wo, ta, ow, 0, X.sh, X.lt, X.ty, X.pl, X.nu, X.od, X.tt, X.oo, X.on, X.wn, X.pd, X.li, X.rr, X.rn, X.dr) : ModN) K) rfl ?_
          refine ev_callM (Yc := mX7_isOutcome) (st := []) dX7_rank_64 tw_1192 kX7_isOutcome (m_X7_isOutcome S ((X.rf, wo, ta, ow, 0, X.sh, X.lt, X.ty, X.pl, X.nu, X.od, X.tt, X.oo, X.on, X.wn, X.pd, X.li, X.rr, X.rn, X.dr) : ModN) K m hS (by omega) (by show -1 ≤ wo m ∧ wo m ≤ 5000; omega)) rfl rfl rfl rfl (by decide) (Nat.le_of_ble_eq_true rfl) (Nat.le_refl _) (Nat.le_refl _) (fun r w' h => by obtain ⟨-, rfl⟩ := h; exact mod_eq) ?_
          rintro _ _ ⟨rfl, rfl⟩
          refine ev_eq (lv' := [(6, .int (nI (m))), (5, .int (zI (i))), (0, .ref 0), (1, .int (nI (k))), (2, .int (nI (0))), (3, .int (zI (bfZ S q))), (4, .int (nI (q)))]) (st' := [.int (nI (b01 (andn m S.ac = 0 ∧ 0 ≤ wo m)))]) (w' := modW 0 S ((X.rf, wo, ta, ow, 0, X.sh, X.lt, X.ty, X.pl, X.nu, X.od, X.tt, X.oo, X.on, X.wn, X.pd, X.li, X.rr, X.rn, X.dr) : ModN) K) rfl rfl rfl ?_
          refine ev_ifeq_b (tgt := 104) dX7_rank_67 (by decide) (fun h67 => ?_) (fun h67 => ?_)
          · skip
            have hnext := nx_skip hinv50 (fun z => absurd (show andn m S.ac = 0 ∧ 0 ≤ wo m from ⟨out_sub z, by rw [hmw, out_wt z]; omega⟩) h67)
            refine ev_iinc_n (x := m) (v := 1) dX7_rank_104 rfl (by decide) ?_
            refine ev_eq (lv' := [(6, .int (nI (m + 1))), (5, .int (zI (i))), (0, .ref 0), (1, .int (nI (k))), (2, .int (nI (0))), (3, .int (zI (bfZ S q))), (4, .int (nI (q)))]) rfl rfl rfl ?_
            refine ev_b bX7_rank_107_50 (lv' := [(6, .int (nI (m + 1))), (5, .int (zI (i))), (0, .ref 0), (1, .int (nI (k))), (2, .int (nI (0))), (3, .int (zI (bfZ S q))), (4, .int (nI (q)))]) (st' := []) (w2 := modW 0 S ((X.rf, wo, ta, ow, 0, X.sh, X.lt, X.ty, X.pl, X.nu, X.od, X.tt, X.oo, X.on, X.wn, X.pd, X.li, X.rr, X.rn, X.dr) : ModN) K) rfl ?_
            rw [show nI (m + 1) = nI ((m + 1)) from congrArg nI (by omega)]
            exact ih50 (m + 1) (by omega) _ hnext
          · skip
            have hmo : outc S m := (out_iff hS h67.1).mpr (by rw [← hmw]; exact h67.2)
            have hmw2 := hmw.trans (out_wt hmo)
            refine ev_b bX7_rank_70_71 (lv' := [(6, .int (nI (m))), (5, .int (zI (i))), (0, .ref 0), (1, .int (nI (k))), (2, .int (nI (0))), (3, .int (zI (bfZ S q))), (4, .int (nI (q)))]) (st' := [.int (zI (bfZ S q))]) (w2 := modW 0 S ((X.rf, wo, ta, ow, 0, X.sh, X.lt, X.ty, X.pl, X.nu, X.od, X.tt, X.oo, X.on, X.wn, X.pd, X.li, X.rr, X.rn, X.dr) : ModN) K) rfl ?_
            refine ev_if_lt_z (tgt := 84) (by constructor <;> omega) dX7_rank_71 (by decide) (fun h71 => ?_) (fun h71 => ?_)
            · skip
              have hkm : (rankLs (keysOf S (packsN S S.ca)) q) < ((keyS S m : Nat) : Int) := by
                rcases hbf with ⟨-, -, h3⟩ | ⟨b, -, h2, -⟩
                · rw [h3]; omega
                · omega
              refine ev_b bX7_rank_84_86 (lv' := [(6, .int (nI (m))), (5, .int (zI (i))), (0, .ref 0), (1, .int (nI (k))), (2, .int (nI (0))), (3, .int (zI (bfZ S q))), (4, .int (nI (q)))]) (st' := [.int (zI (i))]) (w2 := modW 0 S ((X.rf, wo, ta, ow, 0, X.sh, X.lt, X.ty, X.pl, X.nu, X.od, X.tt, X.oo, X.on, X.wn, X.pd, X.li, X.rr, X.rn, X.dr) : ModN) K) rfl ?_
              refine ev_if_lt_z (tgt := 100) (by constructor <;> omega) dX7_rank_86 (by decide) (fun h86 => ?_) (fun h86 => ?_)
              · skip
                have hnext := nx_new hinv50 hmo hkm (fun b hb => by omega)
                refine ev_b bX7_rank_100_104 (lv' := [(5, .int (nI (m))), (6, .int (nI (m))), (0, .ref 0), (1, .int (nI (k))), (2, .int (nI (0))), (3, .int (zI (bfZ S q))), (4, .int (nI (q)))]) (st' := []) (w2 := modW 0 S ((X.rf, wo, ta, ow, 0, X.sh, X.lt, X.ty, X.pl, X.nu, X.od, X.tt, X.oo, X.on, X.wn, X.pd, X.li, X.rr, X.rn, X.dr) : ModN) K) rfl ?_
                refine ev_eq (lv' := [(5, .int (zI (((m : Nat) : Int)))), (6, .int (nI (m))), (0, .ref 0), (1, .int (nI (k))), (2, .int (nI (0))), (3, .int (zI (bfZ S q))), (4, .int (nI (q)))]) (by rw [zI_nat]) rfl rfl ?_
                refine ev_iinc_n (x := m) (v := 1) dX7_rank_104 rfl (by decide) ?_
                refine ev_eq (lv' := [(6, .int (nI (m + 1))), (5, .int (zI (((m : Nat) : Int)))), (0, .ref 0), (1, .int (nI (k))), (2, .int (nI (0))), (3, .int (zI (bfZ S q))), (4, .int (nI (q)))]) rfl rfl rfl ?_
                refine ev_b bX7_rank_107_50 (lv' := [(6, .int (nI (m + 1))), (5, .int (zI (((m : Nat) : Int)))), (0, .ref 0), (1, .int (nI (k))), (2, .int (nI (0))), (3, .int (zI (bfZ S q))), (4, .int (nI (q)))]) (st' := []) (w2 := modW 0 S ((X.rf, wo, ta, ow, 0, X.sh, X.lt, X.ty, X.pl, X.nu, X.od, X.tt, X.oo, X.on, X.wn, X.pd, X.li, X.rr, X.rn, X.dr) : ModN) K) rfl ?_
                rw [show nI (m + 1) = nI ((m + 1)) from congrArg nI (by omega)]
                exact ih50 (m + 1) (by omega) _ hnext
              · skip
                obtain ⟨bi, hbi, hbil, hbio, hbik, hbim⟩ : ∃ b : Nat, i = (b : Int) ∧ b < m ∧ outc S b ∧ (rankLs (keysOf S (packsN S S.ca)) q) < ((keyS S b : Nat) : Int) ∧ ∀ x, x < m → outc S x → (rankLs (keysOf S (packsN S S.ca)) q) < ((keyS S x : Nat) : Int) → keyS S b ≤ keyS S x := hinv50.resolve_left (fun z => by omega)
                have hbi2 := outc_lt hS hbio
                have hbiw := (hT bi (out_shl hbio)).1
                have hbib := wt_bnd hS bi
                have hai := ahead_key hS hmo hbio hmw2 (hbiw.trans (out_wt hbio))
                refine ev_eq (lv' := [(6, .int (nI (m))), (5, .int (nI (bi))), (0, .ref 0), (1, .int (nI (k))), (2, .int (nI (0))), (3, .int (zI (bfZ S q))), (4, .int (nI (q)))]) (by rw [hbi, zI_nat]) rfl rfl ?_
                refine ev_b bX7_rank_89_94 (lv' := [(6, .int (nI (m))), (5, .int (nI (bi))), (0, .ref 0), (1, .int (nI (k))), (2, .int (nI (0))), (3, .int (zI (bfZ S q))), (4, .int (nI (q)))]) (st' := [.int (nI (bi)), .int (nI (m)), .ref 0]) (w2 := modW 0 S ((X.rf, wo, ta, ow, 0, X.sh, X.lt, X.ty, X.pl, X.nu, X.od, X.tt, X.oo, X.on, X.wn, X.pd, X.li, X.rr, X.rn, X.dr) : ModN) K) rfl ?_
                refine ev_callM (Yc := mX7_isAhead) (st := []) dX7_rank_94 tw_1139 kX7_isAhead (m_X7_isAhead S ((X.rf, wo, ta, ow, 0, X.sh, X.lt, X.ty, X.pl, X.nu, X.od, X.tt, X.oo, X.on, X.wn, X.pd, X.li, X.rr, X.rn, X.dr) : ModN) K m bi (by omega) (by omega) (by show -1 ≤ wo m ∧ wo m ≤ 5000; omega) (by show -1 ≤ wo bi ∧ wo bi ≤ 5000; omega)) rfl rfl rfl rfl (by decide) (Nat.le_of_ble_eq_true rfl) (Nat.le_refl _) (Nat.le_refl _) (fun r w' h => by obtain ⟨-, rfl⟩ := h; exact mod_eq) ?_
                rintro _ _ ⟨rfl, rfl⟩
                refine ev_eq (lv' := [(6, .int (nI (m))), (5, .int (nI (bi))), (0, .ref 0), (1, .int (nI (k))), (2, .int (nI (0))), (3, .int (zI (bfZ S q))), (4, .int (nI (q)))]) (st' := [.int (nI (b01 (aheadZ wo m bi)))]) (w' := modW 0 S ((X.rf, wo, ta, ow, 0, X.sh, X.lt, X.ty, X.pl, X.nu, X.od, X.tt, X.oo, X.on, X.wn, X.pd, X.li, X.rr, X.rn, X.dr) : ModN) K) rfl rfl rfl ?_
                refine ev_ifeq_b (tgt := 104) dX7_rank_97 (by decide) (fun h97 => ?_) (fun h97 => ?_)
                · skip
                  have hnext := nx_old hinv50 hbi (Nat.not_lt.mp (fun z => h97 (hai.mpr z)))
                  rw [hbi] at hnext
                  refine ev_eq (lv' := [(6, .int (nI (m))), (5, .int (zI (((bi : Nat) : Int)))), (0, .ref 0), (1, .int (nI (k))), (2, .int (nI (0))), (3, .int (zI (bfZ S q))), (4, .int (nI (q)))]) (by rw [zI_nat]) rfl rfl ?_
                  refine ev_iinc_n (x := m) (v := 1) dX7_rank_104 rfl (by decide) ?_
                  refine ev_eq (lv' := [(6, .int (nI (m + 1))), (5, .int (zI (((bi : Nat) : Int)))), (0, .ref 0), (1, .int (nI (k))), (2, .int (nI (0))), (3, .int (zI (bfZ S q))), (4, .int (nI (q)))]) rfl rfl rfl ?_
                  refine ev_b bX7_rank_107_50 (lv' := [(6, .int (nI (m + 1))), (5, .int (zI (((bi : Nat) : Int)))), (0, .ref 0), (1, .int (nI (k))), (2, .int (nI (0))), (3, .int (zI (bfZ S q))), (4, .int (nI (q)))]) (st' := []) (w2 := modW 0 S ((X.rf, wo, ta, ow, 0, X.sh, X.lt, X.ty, X.pl, X.nu, X.od, X.tt, X.oo, X.on, X.wn, X.pd, X.li, X.rr, X.rn, X.dr) : ModN) K) rfl ?_
                  rw [show nI (m + 1) = nI ((m + 1)) from congrArg nI (by omega)]
                  exact ih50 (m + 1) (by omega) _ hnext
                · skip
                  have hnext := nx_new hinv50 hmo hkm (fun b hb => by rw [show b = bi by omega]; exact Nat.le_of_lt (hai.mp h97))
                  refine ev_b bX7_rank_100_104 (lv' := [(5, .int (nI (m))), (6, .int (nI (m))), (0, .ref 0), (1, .int (nI (k))), (2, .int (nI (0))), (3, .int (zI (bfZ S q))), (4, .int (nI (q)))]) (st' := []) (w2 := modW 0 S ((X.rf, wo, ta, ow, 0, X.sh, X.lt, X.ty, X.pl, X.nu, X.od, X.tt, X.oo, X.on, X.wn, X.pd, X.li, X.rr, X.rn, X.dr) : ModN) K) rfl ?_
                  refine ev_eq (lv' := [(5, .int (zI (((m : Nat) : Int)))), (6, .int (nI (m))), (0, .ref 0), (1, .int (nI (k))), (2, .int (nI (0))), (3, .int (zI (bfZ S q))), (4, .int (nI (q)))]) (by rw [zI_nat]) rfl rfl ?_
                  refine ev_iinc_n (x := m) (v := 1) dX7_rank_104 rfl (by decide) ?_
                  refine ev_eq (lv' := [(6, .int (nI (m + 1))), (5, .int (zI (((m : Nat) : Int)))), (0, .ref 0), (1, .int (nI (k))), (2, .int (nI (0))), (3, .int (zI (bfZ S q))), (4, .int (nI (q)))]) rfl rfl rfl ?_
                  refine ev_b bX7_rank_107_50 (lv' := [(6, .int (nI (m + 1))), (5, .int (zI (((m : Nat) : Int)))), (0, .ref 0), (1, .int (nI (k))), (2, .int (nI (0))), (3, .int (zI (bfZ S q))), (4, .int (nI (q)))]) (st' := []) (w2 := modW 0 S ((X.rf, wo, ta, ow, 0, X.sh, X.lt, X.ty, X.pl, X.nu, X.od, X.tt, X.oo, X.on, X.wn, X.pd, X.li, X.rr, X.rn, X.dr) : ModN) K) rfl ?_
                  rw [show nI (m + 1) = nI ((m + 1)) from congrArg nI (by omega)]
                  exact ih50 (m + 1) (by omega) _ hnext
            · skip
              obtain ⟨bq, hbq, ebq, ekq⟩ : ∃ b, outc S b ∧ bfZ S q = ((b : Nat) : Int) ∧ (rankLs (keysOf S (packsN S S.ca)) q) = ((keyS S b : Nat) : Int) := hbf.resolve_left (fun z => by omega)
              have hbql := outc_lt hS hbq
              have hbqw := (hT bq (out_shl hbq)).1
              have hbqb := wt_bnd hS bq
              have hak := ahead_key hS hbq hmo (hbqw.trans (out_wt hbq)) hmw2
              refine ev_eq (lv' := [(6, .int (nI (m))), (5, .int (zI (i))), (0, .ref 0), (1, .int (nI (k))), (2, .int (nI (0))), (3, .int (nI (bq))), (4, .int (nI (q)))]) (by rw [ebq, zI_nat]) rfl rfl ?_
              refine ev_b bX7_rank_74_78 (lv' := [(6, .int (nI (m))), (5, .int (zI (i))), (0, .ref 0), (1, .int (nI (k))), (2, .int (nI (0))), (3, .int (nI (bq))), (4, .int (nI (q)))]) (st' := [.int (nI (m)), .int (nI (bq)), .ref 0]) (w2 := modW 0 S ((X.rf, wo, ta, ow, 0, X.sh, X.lt, X.ty, X.pl, X.nu, X.od, X.tt, X.oo, X.on, X.wn, X.pd, X.li, X.rr, X.rn, X.dr) : ModN) K) rfl ?_
              refine ev_callM (Yc := mX7_isAhead) (st := []) dX7_rank_78 tw_1139 kX7_isAhead (m_X7_isAhead S ((X.rf, wo, ta, ow, 0, X.sh, X.lt, X.ty, X.pl, X.nu, X.od, X.tt, X.oo, X.on, X.wn, X.pd, X.li, X.rr, X.rn, X.dr) : ModN) K bq m (by omega) (by omega) (by show -1 ≤ wo bq ∧ wo bq ≤ 5000; omega) (by show -1 ≤ wo m ∧ wo m ≤ 5000; omega)) rfl rfl rfl rfl (by decide) (Nat.le_of_ble_eq_true rfl) (Nat.le_refl _) (Nat.le_refl _) (fun r w' h => by obtain ⟨-, rfl⟩ := h; exact mod_eq) ?_
              rintro _ _ ⟨rfl, rfl⟩
              refine ev_eq (lv' := [(6, .int (nI (m))), (5, .int (zI (i))), (0, .ref 0), (1, .int (nI (k))), (2, .int (nI (0))), (3, .int (nI (bq))), (4, .int (nI (q)))]) (st' := [.int (nI (b01 (aheadZ wo bq m)))]) (w' := modW 0 S ((X.rf, wo, ta, ow, 0, X.sh, X.lt, X.ty, X.pl, X.nu, X.od, X.tt, X.oo, X.on, X.wn, X.pd, X.li, X.rr, X.rn, X.dr) : ModN) K) rfl rfl rfl ?_
              refine ev_ifeq_b (tgt := 104) dX7_rank_81 (by decide) (fun h81 => ?_) (fun h81 => ?_)
              · skip
                have hnext := nx_skip hinv50 (fun _ => by rw [ekq]; have := fun z => h81 (hak.mpr z); omega)
                refine ev_eq (lv' := [(6, .int (nI (m))), (5, .int (zI (i))), (0, .ref 0), (1, .int (nI (k))), (2, .int (nI (0))), (3, .int (zI (bfZ S q))), (4, .int (nI (q)))]) (by rw [ebq, zI_nat]) rfl rfl ?_
                refine ev_iinc_n (x := m) (v := 1) dX7_rank_104 rfl (by decide) ?_
                refine ev_eq (lv' := [(6, .int (nI (m + 1))), (5, .int (zI (i))), (0, .ref 0), (1, .int (nI (k))), (2, .int (nI (0))), (3, .int (zI (bfZ S q))), (4, .int (nI (q)))]) rfl rfl rfl ?_
                refine ev_b bX7_rank_107_50 (lv' := [(6, .int (nI (m + 1))), (5, .int (zI (i))), (0, .ref 0), (1, .int (nI (k))), (2, .int (nI (0))), (3, .int (zI (bfZ S q))), (4, .int (nI (q)))]) (st' := []) (w2 := modW 0 S ((X.rf, wo, ta, ow, 0, X.sh, X.lt, X.ty, X.pl, X.nu, X.od, X.tt, X.oo, X.on, X.wn, X.pd, X.li, X.rr, X.rn, X.dr) : ModN) K) rfl ?_
                rw [show nI (m + 1) = nI ((m + 1)) from congrArg nI (by omega)]
                exact ih50 (m + 1) (by omega) _ hnext
              · skip
                have hkm : (rankLs (keysOf S (packsN S S.ca)) q) < ((keyS S m : Nat) : Int) := by rw [ekq]; have := hak.mp h81; omega
                refine ev_eq (lv' := [(6, .int (nI (m))), (5, .int (zI (i))), (0, .ref 0), (1, .int (nI (k))), (2, .int (nI (0))), (3, .int (zI (bfZ S q))), (4, .int (nI (q)))]) (by rw [ebq, zI_nat]) rfl rfl ?_
                refine ev_b bX7_rank_84_86 (lv' := [(6, .int (nI (m))), (5, .int (zI (i))), (0, .ref 0), (1, .int (nI (k))), (2, .int (nI (0))), (3, .int (zI (bfZ S q))), (4, .int (nI (q)))]) (st' := [.int (zI (i))]) (w2 := modW 0 S ((X.rf, wo, ta, ow, 0, X.sh, X.lt, X.ty, X.pl, X.nu, X.od, X.tt, X.oo, X.on, X.wn, X.pd, X.li, X.rr, X.rn, X.dr) : ModN) K) rfl ?_
                refine ev_if_lt_z (tgt := 100) (by constructor <;> omega) dX7_rank_86 (by decide) (fun h86 => ?_) (fun h86 => ?_)
                · skip
                  have hnext := nx_new hinv50 hmo hkm (fun b hb => by omega)
                  refine ev_b bX7_rank_100_104 (lv' := [(5, .int (nI (m))), (6, .int (nI (m))), (0, .ref 0), (1, .int (nI (k))), (2, .int (nI (0))), (3, .int (zI (bfZ S q))), (4, .int (nI (q)))]) (st' := []) (w2 := modW 0 S ((X.rf, wo, ta, ow, 0, X.sh, X.lt, X.ty, X.pl, X.nu, X.od, X.tt, X.oo, X.on, X.wn, X.pd, X.li, X.rr, X.rn, X.dr) : ModN) K) rfl ?_
                  refine ev_eq (lv' := [(5, .int (zI (((m : Nat) : Int)))), (6, .int (nI (m))), (0, .ref 0), (1, .int (nI (k))), (2, .int (nI (0))), (3, .int (zI (bfZ S q))), (4, .int (nI (q)))]) (by rw [zI_nat]) rfl rfl ?_
                  refine ev_iinc_n (x := m) (v := 1) dX7_rank_104 rfl (by decide) ?_
                  refine ev_eq (lv' := [(6, .int (nI (m + 1))), (5, .int (zI (((m : Nat) : Int)))), (0, .ref 0), (1, .int (nI (k))), (2, .int (nI (0))), (3, .int (zI (bfZ S q))), (4, .int (nI (q)))]) rfl rfl rfl ?_
                  refine ev_b bX7_rank_107_50 (lv' := [(6, .int (nI (m + 1))), (5, .int (zI (((m : Nat) : Int)))), (0, .ref 0), (1, .int (nI (k))), (2, .int (nI (0))), (3, .int (zI (bfZ S q))), (4, .int (nI (q)))]) (st' := []) (w2 := modW 0 S ((X.rf, wo, ta, ow, 0, X.sh, X.lt, X.ty, X.pl, X.nu, X.od, X.tt, X.oo, X.on, X.wn, X.pd, X.li, X.rr, X.rn, X.dr) : ModN) K) rfl ?_
                  rw [show nI (m + 1) = nI ((m + 1)) from congrArg nI (by omega)]
                  exact ih50 (m + 1) (by omega) _ hnext
                · skip
                  obtain ⟨bi, hbi, hbil, hbio, hbik, hbim⟩ : ∃ b : Nat, i = (b : Int) ∧ b < m ∧ outc S b ∧ (rankLs (keysOf S (packsN S S.ca)) q) < ((keyS S b : Nat) : Int) ∧ ∀ x, x < m → outc S x → (rankLs (keysOf S (packsN S S.ca)) q) < ((keyS S x : Nat) : Int) → keyS S b ≤ keyS S x := hinv50.resolve_left (fun z => by omega)
                  have hbi2 := outc_lt hS hbio
                  have hbiw := (hT bi (out_shl hbio)).1
                  have hbib := wt_bnd hS bi
                  have hai := ahead_key hS hmo hbio hmw2 (hbiw.trans (out_wt hbio))
                  refine ev_eq (lv' := [(6, .int (nI (m))), (5, .int (nI (bi))), (0, .ref 0), (1, .int (nI (k))), (2, .int (nI (0))), (3, .int (zI (bfZ S q))), (4, .int (nI (q)))]) (by rw [hbi, zI_nat]) rfl rfl ?_
                  refine ev_b bX7_rank_89_94 (lv' := [(6, .int (nI (m))), (5, .int (nI (bi))), (0, .ref 0), (1, .int (nI (k))), (2, .int (nI (0))), (3, .int (zI (bfZ S q))), (4, .int (nI (q)))]) (st' := [.int (nI (bi)), .int (nI (m)), .ref 0]) (w2 := modW 0 S ((X.rf, wo, ta, ow, 0, X.sh, X.lt, X.ty, X.pl, X.nu, X.od, X.tt, X.oo, X.on, X.wn, X.pd, X.li, X.rr, X.rn, X.dr) : ModN) K) rfl ?_
                  refine ev_callM (Yc := mX7_isAhead) (st := []) dX7_rank_94 tw_1139 kX7_isAhead (m_X7_isAhead S ((X.rf, wo, ta, ow, 0, X.sh, X.lt, X.ty, X.pl, X.nu, X.od, X.tt, X.oo, X.on, X.wn, X.pd, X.li, X.rr, X.rn, X.dr) : ModN) K m bi (by omega) (by omega) (by show -1 ≤ wo m ∧ wo m ≤ 5000; omega) (by show -1 ≤ wo bi ∧ wo bi ≤ 5000; omega)) rfl rfl rfl rfl (by decide) (Nat.le_of_ble_eq_true rfl) (Nat.le_refl _) (Nat.le_refl _) (fun r w' h => by obtain ⟨-, rfl⟩ := h; exact mod_eq) ?_
                  rintro _ _ ⟨rfl, rfl⟩
                  refine ev_eq (lv' := [(6, .int (nI (m))), (5, .int (nI (bi))), (0, .ref 0), (1, .int (nI (k))), (2, .int (nI (0))), (3, .int (zI (bfZ S q))), (4, .int (nI (q)))]) (st' := [.int (nI (b01 (aheadZ wo m bi)))]) (w' := modW 0 S ((X.rf, wo, ta, ow, 0, X.sh, X.lt, X.ty, X.pl, X.nu, X.od, X.tt, X.oo, X.on, X.wn, X.pd, X.li, X.rr, X.rn, X.dr) : ModN) K) rfl rfl rfl ?_
                  refine ev_ifeq_b (tgt := 104) dX7_rank_97 (by decide) (fun h97 => ?_) (fun h97 => ?_)
                  · skip
                    have hnext := nx_old hinv50 hbi (Nat.not_lt.mp (fun z => h97 (hai.mpr z)))
                    rw [hbi] at hnext
                    refine ev_eq (lv' := [(6, .int (nI (m))), (5, .int (zI (((bi : Nat) : Int)))), (0, .ref 0), (1, .int (nI (k))), (2, .int (nI (0))), (3, .int (zI (bfZ S q))), (4, .int (nI (q)))]) (by rw [zI_nat]) rfl rfl ?_
                    refine ev_iinc_n (x := m) (v := 1) dX7_rank_104 rfl (by decide) ?_
                    refine ev_eq (lv' := [(6, .int (nI (m + 1))), (5, .int (zI (((bi : Nat) : Int)))), (0, .ref 0), (1, .int (nI (k))), (2, .int (nI (0))), (3, .int (zI (bfZ S q))), (4, .int (nI (q)))]) rfl rfl rfl ?_
                    refine ev_b bX7_rank_107_50 (lv' := [(6, .int (nI (m + 1))), (5, .int (zI (((bi : Nat) : Int)))), (0, .ref 0), (1, .int (nI (k))), (2, .int (nI (0))), (3, .int (zI (bfZ S q))), (4, .int (nI (q)))]) (st' := []) (w2 := modW 0 S ((X.rf, wo, ta, ow, 0, X.sh, X.lt, X.ty, X.pl, X.nu, X.od, X.tt, X.oo, X.on, X.wn, X.pd, X.li, X.rr, X.rn, X.dr) : ModN) K) rfl ?_
                    rw [show nI (m + 1) = nI ((m + 1)) from congrArg nI (by omega)]
                    exact ih50 (m + 1) (by omega) _ hnext
                  · skip
                    have hnext := nx_new hinv50 hmo hkm (fun b hb => by rw [show b = bi by omega]; exact Nat.le_of_lt (hai.mp h97))
                    refine ev_b bX7_rank_100_104 (lv' := [(5, .int (nI (m))), (6, .int (nI (m))), (0, .ref 0), (1, .int (nI (k))), (2, .int (nI (0))), (3, .int (zI (bfZ S q))), (4, .int (nI (q)))]) (st' := []) (w2 := modW 0 S ((X.rf, wo, ta, ow, 0, X.sh, X.lt, X.ty, X.pl, X.nu, X.od, X.tt, X.oo, X.on, X.wn, X.pd, X.li, X.rr, X.rn, X.dr) : ModN) K) rfl ?_
                    refine ev_eq (lv' := [(5, .int (zI (((m : Nat) : Int)))), (6, .int (nI (m))), (0, .ref 0), (1, .int (nI (k))), (2, .int (nI (0))), (3, .int (zI (bfZ S q))), (4, .int (nI (q)))]) (by rw [zI_nat]) rfl rfl ?_
                    refine ev_iinc_n (x := m) (v := 1) dX7_rank_104 rfl (by decide) ?_
                    refine ev_eq (lv' := [(6, .int (nI (m + 1))), (5, .int (zI (((m : Nat) : Int)))), (0, .ref 0), (1, .int (nI (k))), (2, .int (nI (0))), (3, .int (zI (bfZ S q))), (4, .int (nI (q)))]) rfl rfl rfl ?_
                    refine ev_b bX7_rank_107_50 (lv' := [(6, .int (nI (m + 1))), (5, .int (zI (((m : Nat) : Int)))), (0, .ref 0), (1, .int (nI (k))), (2, .int (nI (0))), (3, .int (zI (bfZ S q))), (4, .int (nI (q)))]) (st' := []) (w2 := modW 0 S ((X.rf, wo, ta, ow, 0, X.sh, X.lt, X.ty, X.pl, X.nu, X.od, X.tt, X.oo, X.on, X.wn, X.pd, X.li, X.rr, X.rn, X.dr) : ModN) K) rfl ?_
                    rw [show nI (m + 1) = nI ((m + 1)) from congrArg nI (by omega)]
                    exact ih50 (m + 1) (by omega) _ hnext
      refine ev_pick (lv' := [(6, .int (nI (0))), (5, .int (zI (-9))), (0, .ref 0), (1, .int (nI (k))), (2, .int (nI (0))), (3, .int (zI (bfZ S q))), (4, .int (nI (q)))]) rfl ?_
      exact L50 (1 <<< S.ca) 0 (by omega) (-9) nx_start
  rw [show zI (-9) = zI (bfZ S 0) from congrArg zI (by exact rfl)]
  exact L37 (k + 1) 0 (by omega) 
set_option maxHeartbeats 4000000 in
set_option maxRecDepth 100000 in
theorem q_rank_none1 {l : Launch} {E : XE} (S : SaleN) (X : ModN) (K : Option (Nat → Nat)) (k : Nat) (hS : SaleOK S) (hM : MOK S X) (hk : k < 2147483648) (h : (keysOf S (packsN S S.ca)).length ≤ k) : MetE l E mX7_rank (4) 0 0 [.ref 0, .int (nI (k)), .int (nI (1))] (modW 0 S X K) (MP S K (X.lt) (X.ty) (X.rr) (X.rn) (X.rf) (some (.int (-9)))) := by
  refine MetE.of (by decide +kernel) (Nat.le_of_ble_eq_true rfl) ?_
  have hca := hS.1
  have hpw := pow_ca hS
  have hac := ac_lt hS
  have hshl := shl_le hS
  have hkl : (keysOf S (packsN S S.ca)).length ≤ 1024 := Nat.le_trans keysOf_len (Nat.le_trans (packsN_len S _) hpw)
  refine ev_eq (lv' := [(0, .ref 0), (1, .int (nI (k))), (2, .int (nI (1)))]) (st' := []) (w' := modW 0 S X K) rfl rfl rfl ?_
  refine ev_b bX7_rank_0_1 (lv' := [(0, .ref 0), (1, .int (nI (k))), (2, .int (nI (1)))]) (st' := [.int (nI (k))]) (w2 := modW 0 S X K) rfl ?_
  refine ev_if_ge_n (tgt := 11) (by omega) dX7_rank_1 (by decide) (fun h1 => ?_) (fun h1 => (by exfalso; omega))
  refine ev_b bX7_rank_11_14 (lv' := [(0, .ref 0), (1, .int (nI (k))), (2, .int (nI (1)))]) (st' := [.int (nI (1)), .int (nI (0)), .int (nI (1))]) (w2 := modW 0 S X K) rfl ?_
  refine ev_callS (Yc := mX7_isIn) [] dX7_rank_14 tw_1036 kX7_isIn (m_X7_isIn_n 1 0 1 (by decide) (by decide) (by decide)) rfl (st := []) rfl (by decide) rfl (by decide) (Nat.le_of_ble_eq_true rfl) (Nat.le_refl _) (Nat.le_refl _) (fun r w' h => by obtain ⟨-, rfl⟩ := h; exact Nat.le_of_ble_eq_true rfl) ?_
  rintro _ _ ⟨rfl, rfl⟩
  refine ev_eq (lv' := [(0, .ref 0), (1, .int (nI (k))), (2, .int (nI (1)))]) (st' := [.int (nI (b01 (0 ≤ 1 ∧ 1 ≤ 1)))]) (w' := modW 0 S X K) rfl rfl rfl ?_
  refine ev_ifne_b (tgt := 27) dX7_rank_17 (by decide) (fun h17 => ?_) (fun h17 => (by exfalso; omega))
  refine ev_b bX7_rank_27_28 (lv' := [(0, .ref 0), (1, .int (nI (k))), (2, .int (nI (1)))]) (st' := [.ref 0]) (w2 := modW 0 S X K) rfl ?_
  refine ev_callM (Yc := mX7_table) (st := []) dX7_rank_28 tw_1112 kX7_table (m_X7_table_g S S.kd S.fg X K hS (kf_self hM.1) hM.2) rfl rfl rfl rfl (by decide) (Nat.le_of_ble_eq_true rfl) (Nat.le_refl _) (Nat.le_refl _) (fun r w' h => by obtain ⟨-, wo, ta, ow, rfl, -⟩ := h; exact mod_eq) ?_
  rintro _ _ ⟨rfl, wo, ta, ow, rfl, hT⟩
  refine ev_eq (lv' := [(0, .ref 0), (1, .int (nI (k))), (2, .int (nI (1)))]) (st' := []) (w' := modW 0 S ((X.rf, wo, ta, ow, 0, X.sh, X.lt, X.ty, X.pl, X.nu, X.od, X.tt, X.oo, X.on, X.wn, X.pd, X.li, X.rr, X.rn, X.dr) : ModN) K) rfl rfl rfl ?_
  refine ev_b bX7_rank_31_34 (lv' := [(3, .int (-9)), (0, .ref 0), (1, .int (nI (k))), (2, .int (nI (1)))]) (st' := []) (w2 := modW 0 S ((X.rf, wo, ta, ow, 0, X.sh, X.lt, X.ty, X.pl, X.nu, X.od, X.tt, X.oo, X.on, X.wn, X.pd, X.li, X.rr, X.rn, X.dr) : ModN) K) rfl ?_
  refine ev_eq (lv' := [(3, .int (zI (-9))), (0, .ref 0), (1, .int (nI (k))), (2, .int (nI (1)))]) (by rw [show (-9 : Int32) = zI (-9) from by decide]) rfl rfl ?_
  refine ev_b bX7_rank_34_37 (lv' := [(4, .int (nI (0))), (3, .int (zI (-9))), (0, .ref 0), (1, .int (nI (k))), (2, .int (nI (1)))]) (st' := []) (w2 := modW 0 S ((X.rf, wo, ta, ow, 0, X.sh, X.lt, X.ty, X.pl, X.nu, X.od, X.tt, X.oo, X.on, X.wn, X.pd, X.li, X.rr, X.rn, X.dr) : ModN) K) rfl ?_
  have L37 : ∀ (j_ q : Nat), q + j_ = (keysOf S (packsN S S.ca)).length → Ev l E mX7_rank (4) 0 0 (modW 0 S X K) (MP S K (X.lt) (X.ty) (X.rr) (X.rn) (X.rf) (some (.int (-9)))) 0 0 37 [(4, .int (nI (q))), (3, .int (zI (bfZ S q))), (0, .ref 0), (1, .int (nI (k))), (2, .int (nI (1)))] [] (modW 0 S ((X.rf, wo, ta, ow, 0, X.sh, X.lt, X.ty, X.pl, X.nu, X.od, X.tt, X.oo, X.on, X.wn, X.pd, X.li, X.rr, X.rn, X.dr) : ModN) K) := by
    intro j_
    induction j_ with
    | zero =>
      intro q hk37  
      replace hk37 : q = (keysOf S (packsN S S.ca)).length := hk37
      have hqk : q ≤ (keysOf S (packsN S S.ca)).length := by omega
      have hbf := bf_key hS hqk
      have hbb : -9 ≤ bfZ S q ∧ bfZ S q < 1024 := by
        rcases hbf with ⟨-, h2, -⟩ | ⟨b, h1, h2, -⟩
        · omega
        · have := outc_lt hS h1; omega
      refine ev_b bX7_rank_37_40 (lv' := [(4, .int (nI (q))), (3, .int (zI (bfZ S q))), (0, .ref 0), (1, .int (nI (k))), (2, .int (nI (1)))]) (st' := [.int (nI (k)), .int (nI (q))]) (w2 := modW 0 S ((X.rf, wo, ta, ow, 0, X.sh, X.lt, X.ty, X.pl, X.nu, X.od, X.tt, X.oo, X.on, X.wn, X.pd, X.li, X.rr, X.rn, X.dr) : ModN) K) rfl ?_
      refine ev_icmp_gt_n (tgt := 127) (by omega) (by omega) dX7_rank_40 (by decide) (fun h40 => (by exfalso; omega)) (fun h40 => ?_)
      refine ev_b bX7_rank_43_47 (lv' := [(5, .int (-9)), (4, .int (nI (q))), (3, .int (zI (bfZ S q))), (0, .ref 0), (1, .int (nI (k))), (2, .int (nI (1)))]) (st' := []) (w2 := modW 0 S ((X.rf, wo, ta, ow, 0, X.sh, X.lt, X.ty, X.pl, X.nu, X.od, X.tt, X.oo, X.on, X.wn, X.pd, X.li, X.rr, X.rn, X.dr) : ModN) K) rfl ?_
      refine ev_eq (lv' := [(5, .int (zI (-9))), (4, .int (nI (q))), (3, .int (zI (bfZ S q))), (0, .ref 0), (1, .int (nI (k))), (2, .int (nI (1)))]) (by rw [show (-9 : Int32) = zI (-9) from by decide]) rfl rfl ?_
      refine ev_b bX7_rank_47_50 (lv' := [(6, .int (nI (0))), (5, .int (zI (-9))), (4, .int (nI (q))), (3, .int (zI (bfZ S q))), (0, .ref 0), (1, .int (nI (k))), (2, .int (nI (1)))]) (st' := []) (w2 := modW 0 S ((X.rf, wo, ta, ow, 0, X.sh, X.lt, X.ty, X.pl, X.nu, X.od, X.tt, X.oo, X.on, X.wn, X.pd, X.li, X.rr, X.rn, X.dr) : ModN) K) rfl ?_
      have L50 : ∀ (j_ m : Nat), m + j_ = 1 <<< S.ca → ∀ (i : Int), (NxI S (rankLs (keysOf S (packsN S S.ca)) q) m i) → Ev l E mX7_rank (4) 0 0 (modW 0 S X K) (MP S K (X.lt) (X.ty) (X.rr) (X.rn) (X.rf) (some (.int (-9)))) 0 0 50 [(6, .int (nI (m))), (5, .int (zI (i))), (0, .ref 0), (1, .int (nI (k))), (2, .int (nI (1))), (3, .int (zI (bfZ S q))), (4, .int (nI (q)))] [] (modW 0 S ((X.rf, wo, ta, ow, 0, X.sh, X.lt, X.ty, X.pl, X.nu, X.od, X.tt, X.oo, X.on, X.wn, X.pd, X.li, X.rr, X.rn, X.dr) : ModN) K) := by
        intro j_
        induction j_ with
        | zero =>
          intro m hk50 i hinv50
          replace hk50 : m = 1 <<< S.ca := hk50
          subst hk50
          refine ev_b bX7_rank_50_57 (lv' := [(6, .int (nI ((1 <<< S.ca)))), (5, .int (zI (i))), (0, .ref 0), (1, .int (nI (k))), (2, .int (nI (1))), (3, .int (zI (bfZ S q))), (4, .int (nI (q)))]) (st' := [.int (nI (S.ca)), .int (nI (1)), .int (nI ((1 <<< S.ca)))]) (w2 := modW 0 S ((X.rf, wo, ta, ow, 0, X.sh, X.lt, X.ty, X.pl, X.nu, X.od, X.tt, X.oo, X.on, X.wn, X.pd, X.li, X.rr, X.rn, X.dr) : ModN) K) rfl ?_
          refine ev_ishl_n (by omega) dX7_rank_57 ?_
          refine ev_icmp_ge_n (tgt := 110) (by omega) (by omega) dX7_rank_58 (by decide) (fun h58 => ?_) (fun h58 => (by exfalso; omega))
          have hib := nx_bnd hinv50
          have hsm : q < (keysOf S (packsN S S.ca)).length → 0 ≤ i := fun z => (nx_some hS hinv50 z).1
          have hno : q = (keysOf S (packsN S S.ca)).length → i = -9 := fun z => nx_none hS (by rw [z] at hinv50; exact hinv50)
          refine ev_b bX7_rank_110_112 (lv' := [(6, .int (nI ((1 <<< S.ca)))), (5, .int (zI (i))), (0, .ref 0), (1, .int (nI (k))), (2, .int (nI (1))), (3, .int (zI (bfZ S q))), (4, .int (nI (q)))]) (st' := [.int (zI (i))]) (w2 := modW 0 S ((X.rf, wo, ta, ow, 0, X.sh, X.lt, X.ty, X.pl, X.nu, X.od, X.tt, X.oo, X.on, X.wn, X.pd, X.li, X.rr, X.rn, X.dr) : ModN) K) rfl ?_
          refine ev_if_ge_z (tgt := 118) (by constructor <;> omega) dX7_rank_112 (by decide) (fun h112 => (by exfalso; omega)) (fun h112 => ?_)
          refine ev_b bX7_rank_115_117 (lv' := [(6, .int (nI ((1 <<< S.ca)))), (5, .int (zI (i))), (0, .ref 0), (1, .int (nI (k))), (2, .int (nI (1))), (3, .int (zI (bfZ S q))), (4, .int (nI (q)))]) (st' := [.int (-9)]) (w2 := modW 0 S ((X.rf, wo, ta, ow, 0, X.sh, X.lt, X.ty, X.pl, X.nu, X.od, X.tt, X.oo, X.on, X.wn, X.pd, X.li, X.rr, X.rn, X.dr) : ModN) K) rfl ?_
          exact ev_iret dX7_rank_117 rfl mod_le (Nat.le_refl _) (Nat.le_refl _) ⟨by first | rfl | (rw [ek, ebk]), _, rfl, mok_fresh hM.1 rfl hT, rfl, rfl, rfl, rfl, rfl⟩
        | succ j_ ih50 =>
          intro m hk50 i hinv50
          have hlt50 : m < 1 <<< S.ca := by omega
          have hmw := (hT m hlt50).1
          have hmb := wt_bnd hS m
          have hib := nx_bnd hinv50
          refine ev_b bX7_rank_50_57 (lv' := [(6, .int (nI (m))), (5, .int (zI (i))), (0, .ref 0), (1, .int (nI (k))), (2, .int (nI (1))), (3, .int (zI (bfZ S q))), (4, .int (nI (q)))]) (st' := [.int (nI (S.ca)), .int (nI (1)), .int (nI (m))]) (w2 := modW 0 S ((X.rf, wo, ta, ow, 0, X.sh, X.lt, X.ty, X.pl, X.nu, X.od, X.tt, X.oo, X.on, X.wn, X.pd, X.li, X.rr, X.rn, X.dr) : ModN) K) rfl ?_
          refine ev_ishl_n (by omega) dX7_rank_57 ?_
          refine ev_icmp_ge_n (tgt := 110) (by omega) (by omega) dX7_rank_58 (by decide) (fun h58 => (by exfalso; omega)) (fun h58 => ?_)
          refine ev_b bX7_rank_61_64 (lv' := [(6, .int (nI (m))), (5, .int (zI (i))), (0, .ref 0), (1, .int (nI (k))), (2, .int (nI (1))), (3, .int (zI (bfZ S q))), (4, .int (nI (q)))]) (st' := [.int (nI (m)), .ref 0]) (w2 := modW 0 S ((X.rf, wo, ta, ow, 0, X.sh, X.lt, X.ty, X.pl, X.nu, X.od, X.tt, X.oo, X.on, X.wn, X.pd, X.li, X.rr, X.rn, X.dr) : ModN) K) rfl ?_
          refine ev_callM (Yc := mX7_isOutcome) (st := []) dX7_rank_64 tw_1192 kX7_isOutcome (m_X7_isOutcome S ((X.rf, wo, ta, ow, 0, X.sh, X.lt, X.ty, X.pl, X.nu, X.od, X.tt, X.oo, X.on, X.wn, X.pd, X.li, X.rr, X.rn, X.dr) : ModN) K m hS (by omega) (by show -1 ≤ wo m ∧ wo m ≤ 5000; omega)) rfl rfl rfl rfl (by decide) (Nat.le_of_ble_eq_true rfl) (Nat.le_refl _) (Nat.le_refl _) (fun r w' h => by obtain ⟨-, rfl⟩ := h; exact mod_eq) ?_
          rintro _ _ ⟨rfl, rfl⟩
          refine ev_eq (lv' := [(6, .int (nI (m))), (5, .int (zI (i))), (0, .ref 0), (1, .int (nI (k))), (2, .int (nI (1))), (3, .int (zI (bfZ S q))), (4, .int (nI (q)))]) (st' := [.int (nI (b01 (andn m S.ac = 0 ∧ 0 ≤ wo m)))]) (w' := modW 0 S ((X.rf, wo, ta, ow, 0, X.sh, X.lt, X.ty, X.pl, X.nu, X.od, X.tt, X.oo, X.on, X.wn, X.pd, X.li, X.rr, X.rn, X.dr) : ModN) K) rfl rfl rfl ?_
          refine ev_ifeq_b (tgt := 104) dX7_rank_67 (by decide) (fun h67 => ?_) (fun h67 => ?_)
          · skip
            have hnext := nx_skip hinv50 (fun z => absurd (show andn m S.ac = 0 ∧ 0 ≤ wo m from ⟨out_sub z, by rw [hmw, out_wt z]; omega⟩) h67)
            refine ev_iinc_n (x := m) (v := 1) dX7_rank_104 rfl (by decide) ?_
            refine ev_eq (lv' := [(6, .int (nI (m + 1))), (5, .int (zI (i))), (0, .ref 0), (1, .int (nI (k))), (2, .int (nI (1))), (3, .int (zI (bfZ S q))), (4, .int (nI (q)))]) rfl rfl rfl ?_
            refine ev_b bX7_rank_107_50 (lv' := [(6, .int (nI (m + 1))), (5, .int (zI (i))), (0, .ref 0), (1, .int (nI (k))), (2, .int (nI (1))), (3, .int (zI (bfZ S q))), (4, .int (nI (q)))]) (st' := []) (w2 := modW 0 S ((X.rf, wo, ta, ow, 0, X.sh, X.lt, X.ty, X.pl, X.nu, X.od, X.tt, X.oo, X.on, X.wn, X.pd, X.li, X.rr, X.rn, X.dr) : ModN) K) rfl ?_
            rw [show nI (m + 1) = nI ((m + 1)) from congrArg nI (by omega)]
            exact ih50 (m + 1) (by omega) _ hnext
          · skip
            have hmo : outc S m := (out_iff hS h67.1).mpr (by rw [← hmw]; exact h67.2)
            have hmw2 := hmw.trans (out_wt hmo)
            refine ev_b bX7_rank_70_71 (lv' := [(6, .int (nI (m))), (5, .int (zI (i))), (0, .ref 0), (1, .int (nI (k))), (2, .int (nI (1))), (3, .int (zI (bfZ S q))), (4, .int (nI (q)))]) (st' := [.int (zI (bfZ S q))]) (w2 := modW 0 S ((X.rf, wo, ta, ow, 0, X.sh, X.lt, X.ty, X.pl, X.nu, X.od, X.tt, X.oo, X.on, X.wn, X.pd, X.li, X.rr, X.rn, X.dr) : ModN) K) rfl ?_
            refine ev_if_lt_z (tgt := 84) (by constructor <;> omega) dX7_rank_71 (by decide) (fun h71 => ?_) (fun h71 => ?_)
            · skip
              have hkm : (rankLs (keysOf S (packsN S S.ca)) q) < ((keyS S m : Nat) : Int) := by
                rcases hbf with ⟨-, -, h3⟩ | ⟨b, -, h2, -⟩
                · rw [h3]; omega
                · omega
              refine ev_b bX7_rank_84_86 (lv' := [(6, .int (nI (m))), (5, .int (zI (i))), (0, .ref 0), (1, .int (nI (k))), (2, .int (nI (1))), (3, .int (zI (bfZ S q))), (4, .int (nI (q)))]) (st' := [.int (zI (i))]) (w2 := modW 0 S ((X.rf, wo, ta, ow, 0, X.sh, X.lt, X.ty, X.pl, X.nu, X.od, X.tt, X.oo, X.on, X.wn, X.pd, X.li, X.rr, X.rn, X.dr) : ModN) K) rfl ?_
              refine ev_if_lt_z (tgt := 100) (by constructor <;> omega) dX7_rank_86 (by decide) (fun h86 => ?_) (fun h86 => ?_)
              · skip
                have hnext := nx_new hinv50 hmo hkm (fun b hb => by omega)
                refine ev_b bX7_rank_100_104 (lv' := [(5, .int (nI (m))), (6, .int (nI (m))), (0, .ref 0), (1, .int (nI (k))), (2, .int (nI (1))), (3, .int (zI (bfZ S q))), (4, .int (nI (q)))]) (st' := []) (w2 := modW 0 S ((X.rf, wo, ta, ow, 0, X.sh, X.lt, X.ty, X.pl, X.nu, X.od, X.tt, X.oo, X.on, X.wn, X.pd, X.li, X.rr, X.rn, X.dr) : ModN) K) rfl ?_
                refine ev_eq (lv' := [(5, .int (zI (((m : Nat) : Int)))), (6, .int (nI (m))), (0, .ref 0), (1, .int (nI (k))), (2, .int (nI (1))), (3, .int (zI (bfZ S q))), (4, .int (nI (q)))]) (by rw [zI_nat]) rfl rfl ?_
                refine ev_iinc_n (x := m) (v := 1) dX7_rank_104 rfl (by decide) ?_
                refine ev_eq (lv' := [(6, .int (nI (m + 1))), (5, .int (zI (((m : Nat) : Int)))), (0, .ref 0), (1, .int (nI (k))), (2, .int (nI (1))), (3, .int (zI (bfZ S q))), (4, .int (nI (q)))]) rfl rfl rfl ?_
                refine ev_b bX7_rank_107_50 (lv' := [(6, .int (nI (m + 1))), (5, .int (zI (((m : Nat) : Int)))), (0, .ref 0), (1, .int (nI (k))), (2, .int (nI (1))), (3, .int (zI (bfZ S q))), (4, .int (nI (q)))]) (st' := []) (w2 := modW 0 S ((X.rf, wo, ta, ow, 0, X.sh, X.lt, X.ty, X.pl, X.nu, X.od, X.tt, X.oo, X.on, X.wn, X.pd, X.li, X.rr, X.rn, X.dr) : ModN) K) rfl ?_
                rw [show nI (m + 1) = nI ((m + 1)) from congrArg nI (by omega)]
                exact ih50 (m + 1) (by omega) _ hnext
              · skip
                obtain ⟨bi, hbi, hbil, hbio, hbik, hbim⟩ : ∃ b : Nat, i = (b : Int) ∧ b < m ∧ outc S b ∧ (rankLs (keysOf S (packsN S S.ca)) q) < ((keyS S b : Nat) : Int) ∧ ∀ x, x < m → outc S x → (rankLs (keysOf S (packsN S S.ca)) q) < ((keyS S x : Nat) : Int) → keyS S b ≤ keyS S x := hinv50.resolve_left (fun z => by omega)
                have hbi2 := outc_lt hS hbio
                have hbiw := (hT bi (out_shl hbio)).1
                have hbib := wt_bnd hS bi
                have hai := ahead_key hS hmo hbio hmw2 (hbiw.trans (out_wt hbio))
                refine ev_eq (lv' := [(6, .int (nI (m))), (5, .int (nI (bi))), (0, .ref 0), (1, .int (nI (k))), (2, .int (nI (1))), (3, .int (zI (bfZ S q))), (4, .int (nI (q)))]) (by rw [hbi, zI_nat]) rfl rfl ?_
                refine ev_b bX7_rank_89_94 (lv' := [(6, .int (nI (m))), (5, .int (nI (bi))), (0, .ref 0), (1, .int (nI (k))), (2, .int (nI (1))), (3, .int (zI (bfZ S q))), (4, .int (nI (q)))]) (st' := [.int (nI (bi)), .int (nI (m)), .ref 0]) (w2 := modW 0 S ((X.rf, wo, ta, ow, 0, X.sh, X.lt, X.ty, X.pl, X.nu, X.od, X.tt, X.oo, X.on, X.wn, X.pd, X.li, X.rr, X.rn, X.dr) : ModN) K) rfl ?_
                refine ev_callM (Yc := mX7_isAhead) (st := []) dX7_rank_94 tw_1139 kX7_isAhead (m_X7_isAhead S ((X.rf, wo, ta, ow, 0, X.sh, X.lt, X.ty, X.pl, X.nu, X.od, X.tt, X.oo, X.on, X.wn, X.pd, X.li, X.rr, X.rn, X.dr) : ModN) K m bi (by omega) (by omega) (by show -1 ≤ wo m ∧ wo m ≤ 5000; omega) (by show -1 ≤ wo bi ∧ wo bi ≤ 5000; omega)) rfl rfl rfl rfl (by decide) (Nat.le_of_ble_eq_true rfl) (Nat.le_refl _) (Nat.le_refl _) (fun r w' h => by obtain ⟨-, rfl⟩ := h; exact mod_eq) ?_
                rintro _ _ ⟨rfl, rfl⟩
                refine ev_eq (lv' := [(6, .int (nI (m))), (5, .int (nI (bi))), (0, .ref 0), (1, .int (nI (k))), (2, .int (nI (1))), (3, .int (zI (bfZ S q))), (4, .int (nI (q)))]) (st' := [.int (nI (b01 (aheadZ wo m bi)))]) (w' := modW 0 S ((X.rf, wo, ta, ow, 0, X.sh, X.lt, X.ty, X.pl, X.nu, X.od, X.tt, X.oo, X.on, X.wn, X.pd, X.li, X.rr, X.rn, X.dr) : ModN) K) rfl rfl rfl ?_
                refine ev_ifeq_b (tgt := 104) dX7_rank_97 (by decide) (fun h97 => ?_) (fun h97 => ?_)
                · skip
                  have hnext := nx_old hinv50 hbi (Nat.not_lt.mp (fun z => h97 (hai.mpr z)))
                  rw [hbi] at hnext
                  refine ev_eq (lv' := [(6, .int (nI (m))), (5, .int (zI (((bi : Nat) : Int)))), (0, .ref 0), (1, .int (nI (k))), (2, .int (nI (1))), (3, .int (zI (bfZ S q))), (4, .int (nI (q)))]) (by rw [zI_nat]) rfl rfl ?_
                  refine ev_iinc_n (x := m) (v := 1) dX7_rank_104 rfl (by decide) ?_
                  refine ev_eq (lv' := [(6, .int (nI (m + 1))), (5, .int (zI (((bi : Nat) : Int)))), (0, .ref 0), (1, .int (nI (k))), (2, .int (nI (1))), (3, .int (zI (bfZ S q))), (4, .int (nI (q)))]) rfl rfl rfl ?_
                  refine ev_b bX7_rank_107_50 (lv' := [(6, .int (nI (m + 1))), (5, .int (zI (((bi : Nat) : Int)))), (0, .ref 0), (1, .int (nI (k))), (2, .int (nI (1))), (3, .int (zI (bfZ S q))), (4, .int (nI (q)))]) (st' := []) (w2 := modW 0 S ((X.rf, wo, ta, ow, 0, X.sh, X.lt, X.ty, X.pl, X.nu, X.od, X.tt, X.oo, X.on, X.wn, X.pd, X.li, X.rr, X.rn, X.dr) : ModN) K) rfl ?_
                  rw [show nI (m + 1) = nI ((m + 1)) from congrArg nI (by omega)]
                  exact ih50 (m + 1) (by omega) _ hnext
                · skip
                  have hnext := nx_new hinv50 hmo hkm (fun b hb => by rw [show b = bi by omega]; exact Nat.le_of_lt (hai.mp h97))
                  refine ev_b bX7_rank_100_104 (lv' := [(5, .int (nI (m))), (6, .int (nI (m))), (0, .ref 0), (1, .int (nI (k))), (2, .int (nI (1))), (3, .int (zI (bfZ S q))), (4, .int (nI (q)))]) (st' := []) (w2 := modW 0 S ((X.rf, wo, ta, ow, 0, X.sh, X.lt, X.ty, X.pl, X.nu, X.od, X.tt, X.oo, X.on, X.wn, X.pd, X.li, X.rr, X.rn, X.dr) : ModN) K) rfl ?_
                  refine ev_eq (lv' := [(5, .int (zI (((m : Nat) : Int)))), (6, .int (nI (m))), (0, .ref 0), (1, .int (nI (k))), (2, .int (nI (1))), (3, .int (zI (bfZ S q))), (4, .int (nI (q)))]) (by rw [zI_nat]) rfl rfl ?_
                  refine ev_iinc_n (x := m) (v := 1) dX7_rank_104 rfl (by decide) ?_
                  refine ev_eq (lv' := [(6, .int (nI (m + 1))), (5, .int (zI (((m : Nat) : Int)))), (0, .ref 0), (1, .int (nI (k))), (2, .int (nI (1))), (3, .int (zI (bfZ S q))), (4, .int (nI (q)))]) rfl rfl rfl ?_
                  refine ev_b bX7_rank_107_50 (lv' := [(6, .int (nI (m + 1))), (5, .int (zI (((m : Nat) : Int)))), (0, .ref 0), (1, .int (nI (k))), (2, .int (nI (1))), (3, .int (zI (bfZ S q))), (4, .int (nI (q)))]) (st' := []) (w2 := modW 0 S ((X.rf, wo, ta, ow, 0, X.sh, X.lt, X.ty, X.pl, X.nu, X.od, X.tt, X.oo, X.on, X.wn, X.pd, X.li, X.rr, X.rn, X.dr) : ModN) K) rfl ?_
                  rw [show nI (m + 1) = nI ((m + 1)) from congrArg nI (by omega)]
                  exact ih50 (m + 1) (by omega) _ hnext
            · skip
              obtain ⟨bq, hbq, ebq, ekq⟩ : ∃ b, outc S b ∧ bfZ S q = ((b : Nat) : Int) ∧ (rankLs (keysOf S (packsN S S.ca)) q) = ((keyS S b : Nat) : Int) := hbf.resolve_left (fun z => by omega)
              have hbql := outc_lt hS hbq
              have hbqw := (hT bq (out_shl hbq)).1
              have hbqb := wt_bnd hS bq
              have hak := ahead_key hS hbq hmo (hbqw.trans (out_wt hbq)) hmw2
              refine ev_eq (lv' := [(6, .int (nI (m))), (5, .int (zI (i))), (0, .ref 0), (1, .int (nI (k))), (2, .int (nI (1))), (3, .int (nI (bq))), (4, .int (nI (q)))]) (by rw [ebq, zI_nat]) rfl rfl ?_
              refine ev_b bX7_rank_74_78 (lv' := [(6, .int (nI (m))), (5, .int (zI (i))), (0, .ref 0), (1, .int (nI (k))), (2, .int (nI (1))), (3, .int (nI (bq))), (4, .int (nI (q)))]) (st' := [.int (nI (m)), .int (nI (bq)), .ref 0]) (w2 := modW 0 S ((X.rf, wo, ta, ow, 0, X.sh, X.lt, X.ty, X.pl, X.nu, X.od, X.tt, X.oo, X.on, X.wn, X.pd, X.li, X.rr, X.rn, X.dr) : ModN) K) rfl ?_
              refine ev_callM (Yc := mX7_isAhead) (st := []) dX7_rank_78 tw_1139 kX7_isAhead (m_X7_isAhead S ((X.rf, wo, ta, ow, 0, X.sh, X.lt, X.ty, X.pl, X.nu, X.od, X.tt, X.oo, X.on, X.wn, X.pd, X.li, X.rr, X.rn, X.dr) : ModN) K bq m (by omega) (by omega) (by show -1 ≤ wo bq ∧ wo bq ≤ 5000; omega) (by show -1 ≤ wo m ∧ wo m ≤ 5000; omega)) rfl rfl rfl rfl (by decide) (Nat.le_of_ble_eq_true rfl) (Nat.le_refl _) (Nat.le_refl _) (fun r w' h => by obtain ⟨-, rfl⟩ := h; exact mod_eq) ?_
              rintro _ _ ⟨rfl, rfl⟩
              refine ev_eq (lv' := [(6, .int (nI (m))), (5, .int (zI (i))), (0, .ref 0), (1, .int (nI (k))), (2, .int (nI (1))), (3, .int (nI (bq))), (4, .int (nI (q)))]) (st' := [.int (nI (b01 (aheadZ wo bq m)))]) (w' := modW 0 S ((X.rf, wo, ta, ow, 0, X.sh, X.lt, X.ty, X.pl, X.nu, X.od, X.tt, X.oo, X.on, X.wn, X.pd, X.li, X.rr, X.rn, X.dr) : ModN) K) rfl rfl rfl ?_
              refine ev_ifeq_b (tgt := 104) dX7_rank_81 (by decide) (fun h81 => ?_) (fun h81 => ?_)
              · skip
                have hnext := nx_skip hinv50 (fun _ => by rw [ekq]; have := fun z => h81 (hak.mpr z); omega)
                refine ev_eq (lv' := [(6, .int (nI (m))), (5, .int (zI (i))), (0, .ref 0), (1, .int (nI (k))), (2, .int (nI (1))), (3, .int (zI (bfZ S q))), (4, .int (nI (q)))]) (by rw [ebq, zI_nat]) rfl rfl ?_
                refine ev_iinc_n (x := m) (v := 1) dX7_rank_104 rfl (by decide) ?_
                refine ev_eq (lv' := [(6, .int (nI (m + 1))), (5, .int (zI (i))), (0, .ref 0), (1, .int (nI (k))), (2, .int (nI (1))), (3, .int (zI (bfZ S q))), (4, .int (nI (q)))]) rfl rfl rfl ?_
                refine ev_b bX7_rank_107_50 (lv' := [(6, .int (nI (m + 1))), (5, .int (zI (i))), (0, .ref 0), (1, .int (nI (k))), (2, .int (nI (1))), (3, .int (zI (bfZ S q))), (4, .int (nI (q)))]) (st' := []) (w2 := modW 0 S ((X.rf, wo, ta, ow, 0, X.sh, X.lt, X.ty, X.pl, X.nu, X.od, X.tt, X.oo, X.on, X.wn, X.pd, X.li, X.rr, X.rn, X.dr) : ModN) K) rfl ?_
                rw [show nI (m + 1) = nI ((m + 1)) from congrArg nI (by omega)]
                exact ih50 (m + 1) (by omega) _ hnext
              · skip
                have hkm : (rankLs (keysOf S (packsN S S.ca)) q) < ((keyS S m : Nat) : Int) := by rw [ekq]; have := hak.mp h81; omega
                refine ev_eq (lv' := [(6, .int (nI (m))), (5, .int (zI (i))), (0, .ref 0), (1, .int (nI (k))), (2, .int (nI (1))), (3, .int (zI (bfZ S q))), (4, .int (nI (q)))]) (by rw [ebq, zI_nat]) rfl rfl ?_
                refine ev_b bX7_rank_84_86 (lv' := [(6, .int (nI (m))), (5, .int (zI (i))), (0, .ref 0), (1, .int (nI (k))), (2, .int (nI (1))), (3, .int (zI (bfZ S q))), (4, .int (nI (q)))]) (st' := [.int (zI (i))]) (w2 := modW 0 S ((X.rf, wo, ta, ow, 0, X.sh, X.lt, X.ty, X.pl, X.nu, X.od, X.tt, X.oo, X.on, X.wn, X.pd, X.li, X.rr, X.rn, X.dr) : ModN) K) rfl ?_
                refine ev_if_lt_z (tgt := 100) (by constructor <;> omega) dX7_rank_86 (by decide) (fun h86 => ?_) (fun h86 => ?_)
                · skip
                  have hnext := nx_new hinv50 hmo hkm (fun b hb => by omega)
                  refine ev_b bX7_rank_100_104 (lv' := [(5, .int (nI (m))), (6, .int (nI (m))), (0, .ref 0), (1, .int (nI (k))), (2, .int (nI (1))), (3, .int (zI (bfZ S q))), (4, .int (nI (q)))]) (st' := []) (w2 := modW 0 S ((X.rf, wo, ta, ow, 0, X.sh, X.lt, X.ty, X.pl, X.nu, X.od, X.tt, X.oo, X.on, X.wn, X.pd, X.li, X.rr, X.rn, X.dr) : ModN) K) rfl ?_
                  refine ev_eq (lv' := [(5, .int (zI (((m : Nat) : Int)))), (6, .int (nI (m))), (0, .ref 0), (1, .int (nI (k))), (2, .int (nI (1))), (3, .int (zI (bfZ S q))), (4, .int (nI (q)))]) (by rw [zI_nat]) rfl rfl ?_
                  refine ev_iinc_n (x := m) (v := 1) dX7_rank_104 rfl (by decide) ?_
                  refine ev_eq (lv' := [(6, .int (nI (m + 1))), (5, .int (zI (((m : Nat) : Int)))), (0, .ref 0), (1, .int (nI (k))), (2, .int (nI (1))), (3, .int (zI (bfZ S q))), (4, .int (nI (q)))]) rfl rfl rfl ?_
                  refine ev_b bX7_rank_107_50 (lv' := [(6, .int (nI (m + 1))), (5, .int (zI (((m : Nat) : Int)))), (0, .ref 0), (1, .int (nI (k))), (2, .int (nI (1))), (3, .int (zI (bfZ S q))), (4, .int (nI (q)))]) (st' := []) (w2 := modW 0 S ((X.rf, wo, ta, ow, 0, X.sh, X.lt, X.ty, X.pl, X.nu, X.od, X.tt, X.oo, X.on, X.wn, X.pd, X.li, X.rr, X.rn, X.dr) : ModN) K) rfl ?_
                  rw [show nI (m + 1) = nI ((m + 1)) from congrArg nI (by omega)]
                  exact ih50 (m + 1) (by omega) _ hnext
                · skip
                  obtain ⟨bi, hbi, hbil, hbio, hbik, hbim⟩ : ∃ b : Nat, i = (b : Int) ∧ b < m ∧ outc S b ∧ (rankLs (keysOf S (packsN S S.ca)) q) < ((keyS S b : Nat) : Int) ∧ ∀ x, x < m → outc S x → (rankLs (keysOf S (packsN S S.ca)) q) < ((keyS S x : Nat) : Int) → keyS S b ≤ keyS S x := hinv50.resolve_left (fun z => by omega)
                  have hbi2 := outc_lt hS hbio
                  have hbiw := (hT bi (out_shl hbio)).1
                  have hbib := wt_bnd hS bi
                  have hai := ahead_key hS hmo hbio hmw2 (hbiw.trans (out_wt hbio))
                  refine ev_eq (lv' := [(6, .int (nI (m))), (5, .int (nI (bi))), (0, .ref 0), (1, .int (nI (k))), (2, .int (nI (1))), (3, .int (zI (bfZ S q))), (4, .int (nI (q)))]) (by rw [hbi, zI_nat]) rfl rfl ?_
                  refine ev_b bX7_rank_89_94 (lv' := [(6, .int (nI (m))), (5, .int (nI (bi))), (0, .ref 0), (1, .int (nI (k))), (2, .int (nI (1))), (3, .int (zI (bfZ S q))), (4, .int (nI (q)))]) (st' := [.int (nI (bi)), .int (nI (m)), .ref 0]) (w2 := modW 0 S ((X.rf, wo, ta, ow, 0, X.sh, X.lt, X.ty, X.pl, X.nu, X.od, X.tt, X.oo, X.on, X.wn, X.pd, X.li, X.rr, X.rn, X.dr) : ModN) K) rfl ?_
                  refine ev_callM (Yc := mX7_isAhead) (st := []) dX7_rank_94 tw_1139 kX7_isAhead (m_X7_isAhead S ((X.rf, wo, ta, ow, 0, X.sh, X.lt, X.ty, X.pl, X.nu, X.od, X.tt, X.oo, X.on, X.wn, X.pd, X.li, X.rr, X.rn, X.dr) : ModN) K m bi (by omega) (by omega) (by show -1 ≤ wo m ∧ wo m ≤ 5000; omega) (by show -1 ≤ wo bi ∧ wo bi ≤ 5000; omega)) rfl rfl rfl rfl (by decide) (Nat.le_of_ble_eq_true rfl) (Nat.le_refl _) (Nat.le_refl _) (fun r w' h => by obtain ⟨-, rfl⟩ := h; exact mod_eq) ?_
                  rintro _ _ ⟨rfl, rfl⟩
                  refine ev_eq (lv' := [(6, .int (nI (m))), (5, .int (nI (bi))), (0, .ref 0), (1, .int (nI (k))), (2, .int (nI (1))), (3, .int (zI (bfZ S q))), (4, .int (nI (q)))]) (st' := [.int (nI (b01 (aheadZ wo m bi)))]) (w' := modW 0 S ((X.rf, wo, ta, ow, 0, X.sh, X.lt, X.ty, X.pl, X.nu, X.od, X.tt, X.oo, X.on, X.wn, X.pd, X.li, X.rr, X.rn, X.dr) : ModN) K) rfl rfl rfl ?_
                  refine ev_ifeq_b (tgt := 104) dX7_rank_97 (by decide) (fun h97 => ?_) (fun h97 => ?_)
                  · skip
                    have hnext := nx_old hinv50 hbi (Nat.not_lt.mp (fun z => h97 (hai.mpr z)))
                    rw [hbi] at hnext
                    refine ev_eq (lv' := [(6, .int (nI (m))), (5, .int (zI (((bi : Nat) : Int)))), (0, .ref 0), (1, .int (nI (k))), (2, .int (nI (1))), (3, .int (zI (bfZ S q))), (4, .int (nI (q)))]) (by rw [zI_nat]) rfl rfl ?_
                    refine ev_iinc_n (x := m) (v := 1) dX7_rank_104 rfl (by decide) ?_
                    refine ev_eq (lv' := [(6, .int (nI (m + 1))), (5, .int (zI (((bi : Nat) : Int)))), (0, .ref 0), (1, .int (nI (k))), (2, .int (nI (1))), (3, .int (zI (bfZ S q))), (4, .int (nI (q)))]) rfl rfl rfl ?_
                    refine ev_b bX7_rank_107_50 (lv' := [(6, .int (nI (m + 1))), (5, .int (zI (((bi : Nat) : Int)))), (0, .ref 0), (1, .int (nI (k))), (2, .int (nI (1))), (3, .int (zI (bfZ S q))), (4, .int (nI (q)))]) (st' := []) (w2 := modW 0 S ((X.rf, wo, ta, ow, 0, X.sh, X.lt, X.ty, X.pl, X.nu, X.od, X.tt, X.oo, X.on, X.wn, X.pd, X.li, X.rr, X.rn, X.dr) : ModN) K) rfl ?_
                    rw [show nI (m + 1) = nI ((m + 1)) from congrArg nI (by omega)]
                    exact ih50 (m + 1) (by omega) _ hnext
                  · skip
                    have hnext := nx_new hinv50 hmo hkm (fun b hb => by rw [show b = bi by omega]; exact Nat.le_of_lt (hai.mp h97))
                    refine ev_b bX7_rank_100_104 (lv' := [(5, .int (nI (m))), (6, .int (nI (m))), (0, .ref 0), (1, .int (nI (k))), (2, .int (nI (1))), (3, .int (zI (bfZ S q))), (4, .int (nI (q)))]) (st' := []) (w2 := modW 0 S ((X.rf, wo, ta, ow, 0, X.sh, X.lt, X.ty, X.pl, X.nu, X.od, X.tt, X.oo, X.on, X.wn, X.pd, X.li, X.rr, X.rn, X.dr) : ModN) K) rfl ?_
                    refine ev_eq (lv' := [(5, .int (zI (((m : Nat) : Int)))), (6, .int (nI (m))), (0, .ref 0), (1, .int (nI (k))), (2, .int (nI (1))), (3, .int (zI (bfZ S q))), (4, .int (nI (q)))]) (by rw [zI_nat]) rfl rfl ?_
                    refine ev_iinc_n (x := m) (v := 1) dX7_rank_104 rfl (by decide) ?_
                    refine ev_eq (lv' := [(6, .int (nI (m + 1))), (5, .int (zI (((m : Nat) : Int)))), (0, .ref 0), (1, .int (nI (k))), (2, .int (nI (1))), (3, .int (zI (bfZ S q))), (4, .int (nI (q)))]) rfl rfl rfl ?_
                    refine ev_b bX7_rank_107_50 (lv' := [(6, .int (nI (m + 1))), (5, .int (zI (((m : Nat) : Int)))), (0, .ref 0), (1, .int (nI (k))), (2, .int (nI (1))), (3, .int (zI (bfZ S q))), (4, .int (nI (q)))]) (st' := []) (w2 := modW 0 S ((X.rf, wo, ta, ow, 0, X.sh, X.lt, X.ty, X.pl, X.nu, X.od, X.tt, X.oo, X.on, X.wn, X.pd, X.li, X.rr, X.rn, X.dr) : ModN) K) rfl ?_
                    rw [show nI (m + 1) = nI ((m + 1)) from congrArg nI (by omega)]
                    exact ih50 (m + 1) (by omega) _ hnext
      refine ev_pick (lv' := [(6, .int (nI (0))), (5, .int (zI (-9))), (0, .ref 0), (1, .int (nI (k))), (2, .int (nI (1))), (3, .int (zI (bfZ S q))), (4, .int (nI (q)))]) rfl ?_
      exact L50 (1 <<< S.ca) 0 (by omega) (-9) nx_start
    | succ j_ ih37 =>
      intro q hk37  
      have hlt37 : q < (keysOf S (packsN S S.ca)).length := by omega
      have hqk : q ≤ (keysOf S (packsN S S.ca)).length := by omega
      have hbf := bf_key hS hqk
      have hbb : -9 ≤ bfZ S q ∧ bfZ S q < 1024 := by
        rcases hbf with ⟨-, h2, -⟩ | ⟨b, h1, h2, -⟩
        · omega
        · have := outc_lt hS h1; omega
      refine ev_b bX7_rank_37_40 (lv' := [(4, .int (nI (q))), (3, .int (zI (bfZ S q))), (0, .ref 0), (1, .int (nI (k))), (2, .int (nI (1)))]) (st' := [.int (nI (k)), .int (nI (q))]) (w2 := modW 0 S ((X.rf, wo, ta, ow, 0, X.sh, X.lt, X.ty, X.pl, X.nu, X.od, X.tt, X.oo, X.on, X.wn, X.pd, X.li, X.rr, X.rn, X.dr) : ModN) K) rfl ?_
      refine ev_icmp_gt_n (tgt := 127) (by omega) (by omega) dX7_rank_40 (by decide) (fun h40 => (by exfalso; omega)) (fun h40 => ?_)
      refine ev_b bX7_rank_43_47 (lv' := [(5, .int (-9)), (4, .int (nI (q))), (3, .int (zI (bfZ S q))), (0, .ref 0), (1, .int (nI (k))), (2, .int (nI (1)))]) (st' := []) (w2 := modW 0 S ((X.rf, wo, ta, ow, 0, X.sh, X.lt, X.ty, X.pl, X.nu, X.od, X.tt, X.oo, X.on, X.wn, X.pd, X.li, X.rr, X.rn, X.dr) : ModN) K) rfl ?_
      refine ev_eq (lv' := [(5, .int (zI (-9))), (4, .int (nI (q))), (3, .int (zI (bfZ S q))), (0, .ref 0), (1, .int (nI (k))), (2, .int (nI (1)))]) (by rw [show (-9 : Int32) = zI (-9) from by decide]) rfl rfl ?_
      refine ev_b bX7_rank_47_50 (lv' := [(6, .int (nI (0))), (5, .int (zI (-9))), (4, .int (nI (q))), (3, .int (zI (bfZ S q))), (0, .ref 0), (1, .int (nI (k))), (2, .int (nI (1)))]) (st' := []) (w2 := modW 0 S ((X.rf, wo, ta, ow, 0, X.sh, X.lt, X.ty, X.pl, X.nu, X.od, X.tt, X.oo, X.on, X.wn, X.pd, X.li, X.rr, X.rn, X.dr) : ModN) K) rfl ?_
      have L50 : ∀ (j_ m : Nat), m + j_ = 1 <<< S.ca → ∀ (i : Int), (NxI S (rankLs (keysOf S (packsN S S.ca)) q) m i) → Ev l E mX7_rank (4) 0 0 (modW 0 S X K) (MP S K (X.lt) (X.ty) (X.rr) (X.rn) (X.rf) (some (.int (-9)))) 0 0 50 [(6, .int (nI (m))), (5, .int (zI (i))), (0, .ref 0), (1, .int (nI (k))), (2, .int (nI (1))), (3, .int (zI (bfZ S q))), (4, .int (nI (q)))] [] (modW 0 S ((X.rf, wo, ta, ow, 0, X.sh, X.lt, X.ty, X.pl, X.nu, X.od, X.tt, X.oo, X.on, X.wn, X.pd, X.li, X.rr, X.rn, X.dr) : ModN) K) := by
        intro j_
        induction j_ with
        | zero =>
          intro m hk50 i hinv50
          replace hk50 : m = 1 <<< S.ca := hk50
          subst hk50
          refine ev_b bX7_rank_50_57 (lv' := [(6, .int (nI ((1 <<< S.ca)))), (5, .int (zI (i))), (0, .ref 0), (1, .int (nI (k))), (2, .int (nI (1))), (3, .int (zI (bfZ S q))), (4, .int (nI (q)))]) (st' := [.int (nI (S.ca)), .int (nI (1)), .int (nI ((1 <<< S.ca)))]) (w2 := modW 0 S ((X.rf, wo, ta, ow, 0, X.sh, X.lt, X.ty, X.pl, X.nu, X.od, X.tt, X.oo, X.on, X.wn, X.pd, X.li, X.rr, X.rn, X.dr) : ModN) K) rfl ?_
          refine ev_ishl_n (by omega) dX7_rank_57 ?_
          refine ev_icmp_ge_n (tgt := 110) (by omega) (by omega) dX7_rank_58 (by decide) (fun h58 => ?_) (fun h58 => (by exfalso; omega))
          have hib := nx_bnd hinv50
          have hsm : q < (keysOf S (packsN S S.ca)).length → 0 ≤ i := fun z => (nx_some hS hinv50 z).1
          have hno : q = (keysOf S (packsN S S.ca)).length → i = -9 := fun z => nx_none hS (by rw [z] at hinv50; exact hinv50)
          refine ev_b bX7_rank_110_112 (lv' := [(6, .int (nI ((1 <<< S.ca)))), (5, .int (zI (i))), (0, .ref 0), (1, .int (nI (k))), (2, .int (nI (1))), (3, .int (zI (bfZ S q))), (4, .int (nI (q)))]) (st' := [.int (zI (i))]) (w2 := modW 0 S ((X.rf, wo, ta, ow, 0, X.sh, X.lt, X.ty, X.pl, X.nu, X.od, X.tt, X.oo, X.on, X.wn, X.pd, X.li, X.rr, X.rn, X.dr) : ModN) K) rfl ?_
          refine ev_if_ge_z (tgt := 118) (by constructor <;> omega) dX7_rank_112 (by decide) (fun h112 => ?_) (fun h112 => (by exfalso; omega))
          refine ev_b bX7_rank_118_121 (lv' := [(3, .int (zI (i))), (6, .int (nI ((1 <<< S.ca)))), (5, .int (zI (i))), (0, .ref 0), (1, .int (nI (k))), (2, .int (nI (1))), (4, .int (nI (q)))]) (st' := []) (w2 := modW 0 S ((X.rf, wo, ta, ow, 0, X.sh, X.lt, X.ty, X.pl, X.nu, X.od, X.tt, X.oo, X.on, X.wn, X.pd, X.li, X.rr, X.rn, X.dr) : ModN) K) rfl ?_
          refine ev_iinc_n (x := q) (v := 1) dX7_rank_121 rfl (by decide) ?_
          refine ev_eq (lv' := [(4, .int (nI (q + 1))), (3, .int (zI (i))), (6, .int (nI ((1 <<< S.ca)))), (5, .int (zI (i))), (0, .ref 0), (1, .int (nI (k))), (2, .int (nI (1)))]) rfl rfl rfl ?_
          refine ev_b bX7_rank_124_37 (lv' := [(4, .int (nI (q + 1))), (3, .int (zI (i))), (6, .int (nI ((1 <<< S.ca)))), (5, .int (zI (i))), (0, .ref 0), (1, .int (nI (k))), (2, .int (nI (1)))]) (st' := []) (w2 := modW 0 S ((X.rf, wo, ta, ow, 0, X.sh, X.lt, X.ty, X.pl, X.nu, X.od, X.tt, X.oo, X.on, X.wn, X.pd, X.li, X.rr, X.rn, X.dr) : ModN) K) rfl ?_
          refine ev_pick (lv' := [(4, .int (nI (q + 1))), (3, .int (zI (i))), (0, .ref 0), (1, .int (nI (k))), (2, .int (nI (1)))]) rfl ?_
          rw [show nI (q + 1) = nI ((q + 1)) from congrArg nI (by omega)]
          rw [show zI (i) = zI (bfZ S (q + 1)) from congrArg zI (by exact (nx_some hS hinv50 (by omega)).2)]
          exact ih37 (q + 1) (by omega) 
        | succ j_ ih50 =>
          intro m hk50 i hinv50
          have hlt50 : m < 1 <<< S.ca := by omega
          have hmw := (hT m hlt50).1
          have hmb := wt_bnd hS m
          have hib := nx_bnd hinv50
          refine ev_b bX7_rank_50_57 (lv' := [(6, .int (nI (m))), (5, .int (zI (i))), (0, .ref 0), (1, .int (nI (k))), (2, .int (nI (1))), (3, .int (zI (bfZ S q))), (4, .int (nI (q)))]) (st' := [.int (nI (S.ca)), .int (nI (1)), .int (nI (m))]) (w2 := modW 0 S ((X.rf, wo, ta, ow, 0, X.sh, X.lt, X.ty, X.pl, X.nu, X.od, X.tt, X.oo, X.on, X.wn, X.pd, X.li, X.rr, X.rn, X.dr) : ModN) K) rfl ?_
          refine ev_ishl_n (by omega) dX7_rank_57 ?_
          refine ev_icmp_ge_n (tgt := 110) (by omega) (by omega) dX7_rank_58 (by decide) (fun h58 => (by exfalso; omega)) (fun h58 => ?_)
          refine ev_b bX7_rank_61_64 (lv' := [(6, .int (nI (m))), (5, .int (zI (i))), (0, .ref 0), (1, .int (nI (k))), (2, .int (nI (1))), (3, .int (zI (bfZ S q))), (4, .int (nI (q)))]) (st' := [.int (nI (m)), .ref 0]) (w2 := modW 0 S ((X.rf, wo, ta, ow, 0, X.sh, X.lt, X.ty, X.pl, X.nu, X.od, X.tt, X.oo, X.on, X.wn, X.pd, X.li, X.rr, X.rn, X.dr) : ModN) K) rfl ?_
          refine ev_callM (Yc := mX7_isOutcome) (st := []) dX7_rank_64 tw_1192 kX7_isOutcome (m_X7_isOutcome S ((X.rf, wo, ta, ow, 0, X.sh, X.lt, X.ty, X.pl, X.nu, X.od, X.tt, X.oo, X.on, X.wn, X.pd, X.li, X.rr, X.rn, X.dr) : ModN) K m hS (by omega) (by show -1 ≤ wo m ∧ wo m ≤ 5000; omega)) rfl rfl rfl rfl (by decide) (Nat.le_of_ble_eq_true rfl) (Nat.le_refl _) (Nat.le_refl _) (fun r w' h => by obtain ⟨-, rfl⟩ := h; exact mod_eq) ?_
          rintro _ _ ⟨rfl, rfl⟩
          refine ev_eq (lv' := [(6, .int (nI (m))), (5, .int (zI (i))), (0, .ref 0), (1, .int (nI (k))), (2, .int (nI (1))), (3, .int (zI (bfZ S q))), (4, .int (nI (q)))]) (st' := [.int (nI (b01 (andn m S.ac = 0 ∧ 0 ≤ wo m)))]) (w' := modW 0 S ((X.rf, wo, ta, ow, 0, X.sh, X.lt, X.ty, X.pl, X.nu, X.od, X.tt, X.oo, X.on, X.wn, X.pd, X.li, X.rr, X.rn, X.dr) : ModN) K) rfl rfl rfl ?_
          refine ev_ifeq_b (tgt := 104) dX7_rank_67 (by decide) (fun h67 => ?_) (fun h67 => ?_)
          · skip
            have hnext := nx_skip hinv50 (fun z => absurd (show andn m S.ac = 0 ∧ 0 ≤ wo m from ⟨out_sub z, by rw [hmw, out_wt z]; omega⟩) h67)
            refine ev_iinc_n (x := m) (v := 1) dX7_rank_104 rfl (by decide) ?_
            refine ev_eq (lv' := [(6, .int (nI (m + 1))), (5, .int (zI (i))), (0, .ref 0), (1, .int (nI (k))), (2, .int (nI (1))), (3, .int (zI (bfZ S q))), (4, .int (nI (q)))]) rfl rfl rfl ?_
            refine ev_b bX7_rank_107_50 (lv' := [(6, .int (nI (m + 1))), (5, .int (zI (i))), (0, .ref 0), (1, .int (nI (k))), (2, .int (nI (1))), (3, .int (zI (bfZ S q))), (4, .int (nI (q)))]) (st' := []) (w2 := modW 0 S ((X.rf, wo, ta, ow, 0, X.sh, X.lt, X.ty, X.pl, X.nu, X.od, X.tt, X.oo, X.on, X.wn, X.pd, X.li, X.rr, X.rn, X.dr) : ModN) K) rfl ?_
            rw [show nI (m + 1) = nI ((m + 1)) from congrArg nI (by omega)]
            exact ih50 (m + 1) (by omega) _ hnext
          · skip
            have hmo : outc S m := (out_iff hS h67.1).mpr (by rw [← hmw]; exact h67.2)
            have hmw2 := hmw.trans (out_wt hmo)
            refine ev_b bX7_rank_70_71 (lv' := [(6, .int (nI (m))), (5, .int (zI (i))), (0, .ref 0), (1, .int (nI (k))), (2, .int (nI (1))), (3, .int (zI (bfZ S q))), (4, .int (nI (q)))]) (st' := [.int (zI (bfZ S q))]) (w2 := modW 0 S ((X.rf, wo, ta, ow, 0, X.sh, X.lt, X.ty, X.pl, X.nu, X.od, X.tt, X.oo, X.on, X.wn, X.pd, X.li, X.rr, X.rn, X.dr) : ModN) K) rfl ?_
            refine ev_if_lt_z (tgt := 84) (by constructor <;> omega) dX7_rank_71 (by decide) (fun h71 => ?_) (fun h71 => ?_)
            · skip
              have hkm : (rankLs (keysOf S (packsN S S.ca)) q) < ((keyS S m : Nat) : Int) := by
                rcases hbf with ⟨-, -, h3⟩ | ⟨b, -, h2, -⟩
                · rw [h3]; omega
                · omega
              refine ev_b bX7_rank_84_86 (lv' := [(6, .int (nI (m))), (5, .int (zI (i))), (0, .ref 0), (1, .int (nI (k))), (2, .int (nI (1))), (3, .int (zI (bfZ S q))), (4, .int (nI (q)))]) (st' := [.int (zI (i))]) (w2 := modW 0 S ((X.rf, wo, ta, ow, 0, X.sh, X.lt, X.ty, X.pl, X.nu, X.od, X.tt, X.oo, X.on, X.wn, X.pd, X.li, X.rr, X.rn, X.dr) : ModN) K) rfl ?_
              refine ev_if_lt_z (tgt := 100) (by constructor <;> omega) dX7_rank_86 (by decide) (fun h86 => ?_) (fun h86 => ?_)
              · skip
                have hnext := nx_new hinv50 hmo hkm (fun b hb => by omega)
                refine ev_b bX7_rank_100_104 (lv' := [(5, .int (nI (m))), (6, .int (nI (m))), (0, .ref 0), (1, .int (nI (k))), (2, .int (nI (1))), (3, .int (zI (bfZ S q))), (4, .int (nI (q)))]) (st' := []) (w2 := modW 0 S ((X.rf, wo, ta, ow, 0, X.sh, X.lt, X.ty, X.pl, X.nu, X.od, X.tt, X.oo, X.on, X.wn, X.pd, X.li, X.rr, X.rn, X.dr) : ModN) K) rfl ?_
                refine ev_eq (lv' := [(5, .int (zI (((m : Nat) : Int)))), (6, .int (nI (m))), (0, .ref 0), (1, .int (nI (k))), (2, .int (nI (1))), (3, .int (zI (bfZ S q))), (4, .int (nI (q)))]) (by rw [zI_nat]) rfl rfl ?_
                refine ev_iinc_n (x := m) (v := 1) dX7_rank_104 rfl (by decide) ?_
                refine ev_eq (lv' := [(6, .int (nI (m + 1))), (5, .int (zI (((m : Nat) : Int)))), (0, .ref 0), (1, .int (nI (k))), (2, .int (nI (1))), (3, .int (zI (bfZ S q))), (4, .int (nI (q)))]) rfl rfl rfl ?_
                refine ev_b bX7_rank_107_50 (lv' := [(6, .int (nI (m + 1))), (5, .int (zI (((m : Nat) : Int)))), (0, .ref 0), (1, .int (nI (k))), (2, .int (nI (1))), (3, .int (zI (bfZ S q))), (4, .int (nI (q)))]) (st' := []) (w2 := modW 0 S ((X.rf, wo, ta, ow, 0, X.sh, X.lt, X.ty, X.pl, X.nu, X.od, X.tt, X.oo, X.on, X.wn, X.pd, X.li, X.rr, X.rn, X.dr) : ModN) K) rfl ?_
                rw [show nI (m + 1) = nI ((m + 1)) from congrArg nI (by omega)]
                exact ih50 (m + 1) (by omega) _ hnext
              · skip
                obtain ⟨bi, hbi, hbil, hbio, hbik, hbim⟩ : ∃ b : Nat, i = (b : Int) ∧ b < m ∧ outc S b ∧ (rankLs (keysOf S (packsN S S.ca)) q) < ((keyS S b : Nat) : Int) ∧ ∀ x, x < m → outc S x → (rankLs (keysOf S (packsN S S.ca)) q) < ((keyS S x : Nat) : Int) → keyS S b ≤ keyS S x := hinv50.resolve_left (fun z => by omega)
                have hbi2 := outc_lt hS hbio
                have hbiw := (hT bi (out_shl hbio)).1
                have hbib := wt_bnd hS bi
                have hai := ahead_key hS hmo hbio hmw2 (hbiw.trans (out_wt hbio))
                refine ev_eq (lv' := [(6, .int (nI (m))), (5, .int (nI (bi))), (0, .ref 0), (1, .int (nI (k))), (2, .int (nI (1))), (3, .int (zI (bfZ S q))), (4, .int (nI (q)))]) (by rw [hbi, zI_nat]) rfl rfl ?_
                refine ev_b bX7_rank_89_94 (lv' := [(6, .int (nI (m))), (5, .int (nI (bi))), (0, .ref 0), (1, .int (nI (k))), (2, .int (nI (1))), (3, .int (zI (bfZ S q))), (4, .int (nI (q)))]) (st' := [.int (nI (bi)), .int (nI (m)), .ref 0]) (w2 := modW 0 S ((X.rf, wo, ta, ow, 0, X.sh, X.lt, X.ty, X.pl, X.nu, X.od, X.tt, X.oo, X.on, X.wn, X.pd, X.li, X.rr, X.rn, X.dr) : ModN) K) rfl ?_
                refine ev_callM (Yc := mX7_isAhead) (st := []) dX7_rank_94 tw_1139 kX7_isAhead (m_X7_isAhead S ((X.rf, wo, ta, ow, 0, X.sh, X.lt, X.ty, X.pl, X.nu, X.od, X.tt, X.oo, X.on, X.wn, X.pd, X.li, X.rr, X.rn, X.dr) : ModN) K m bi (by omega) (by omega) (by show -1 ≤ wo m ∧ wo m ≤ 5000; omega) (by show -1 ≤ wo bi ∧ wo bi ≤ 5000; omega)) rfl rfl rfl rfl (by decide) (Nat.le_of_ble_eq_true rfl) (Nat.le_refl _) (Nat.le_refl _) (fun r w' h => by obtain ⟨-, rfl⟩ := h; exact mod_eq) ?_
                rintro _ _ ⟨rfl, rfl⟩
                refine ev_eq (lv' := [(6, .int (nI (m))), (5, .int (nI (bi))), (0, .ref 0), (1, .int (nI (k))), (2, .int (nI (1))), (3, .int (zI (bfZ S q))), (4, .int (nI (q)))]) (st' := [.int (nI (b01 (aheadZ wo m bi)))]) (w' := modW 0 S ((X.rf, wo, ta, ow, 0, X.sh, X.lt, X.ty, X.pl, X.nu, X.od, X.tt, X.oo, X.on, X.wn, X.pd, X.li, X.rr, X.rn, X.dr) : ModN) K) rfl rfl rfl ?_
                refine ev_ifeq_b (tgt := 104) dX7_rank_97 (by decide) (fun h97 => ?_) (fun h97 => ?_)
                · skip
                  have hnext := nx_old hinv50 hbi (Nat.not_lt.mp (fun z => h97 (hai.mpr z)))
                  rw [hbi] at hnext
                  refine ev_eq (lv' := [(6, .int (nI (m))), (5, .int (zI (((bi : Nat) : Int)))), (0, .ref 0), (1, .int (nI (k))), (2, .int (nI (1))), (3, .int (zI (bfZ S q))), (4, .int (nI (q)))]) (by rw [zI_nat]) rfl rfl ?_
                  refine ev_iinc_n (x := m) (v := 1) dX7_rank_104 rfl (by decide) ?_
                  refine ev_eq (lv' := [(6, .int (nI (m + 1))), (5, .int (zI (((bi : Nat) : Int)))), (0, .ref 0), (1, .int (nI (k))), (2, .int (nI (1))), (3, .int (zI (bfZ S q))), (4, .int (nI (q)))]) rfl rfl rfl ?_
                  refine ev_b bX7_rank_107_50 (lv' := [(6, .int (nI (m + 1))), (5, .int (zI (((bi : Nat) : Int)))), (0, .ref 0), (1, .int (nI (k))), (2, .int (nI (1))), (3, .int (zI (bfZ S q))), (4, .int (nI (q)))]) (st' := []) (w2 := modW 0 S ((X.rf, wo, ta, ow, 0, X.sh, X.lt, X.ty, X.pl, X.nu, X.od, X.tt, X.oo, X.on, X.wn, X.pd, X.li, X.rr, X.rn, X.dr) : ModN) K) rfl ?_
                  rw [show nI (m + 1) = nI ((m + 1)) from congrArg nI (by omega)]
                  exact ih50 (m + 1) (by omega) _ hnext
                · skip
                  have hnext := nx_new hinv50 hmo hkm (fun b hb => by rw [show b = bi by omega]; exact Nat.le_of_lt (hai.mp h97))
                  refine ev_b bX7_rank_100_104 (lv' := [(5, .int (nI (m))), (6, .int (nI (m))), (0, .ref 0), (1, .int (nI (k))), (2, .int (nI (1))), (3, .int (zI (bfZ S q))), (4, .int (nI (q)))]) (st' := []) (w2 := modW 0 S ((X.rf, wo, ta, ow, 0, X.sh, X.lt, X.ty, X.pl, X.nu, X.od, X.tt, X.oo, X.on, X.wn, X.pd, X.li, X.rr, X.rn, X.dr) : ModN) K) rfl ?_
                  refine ev_eq (lv' := [(5, .int (zI (((m : Nat) : Int)))), (6, .int (nI (m))), (0, .ref 0), (1, .int (nI (k))), (2, .int (nI (1))), (3, .int (zI (bfZ S q))), (4, .int (nI (q)))]) (by rw [zI_nat]) rfl rfl ?_
                  refine ev_iinc_n (x := m) (v := 1) dX7_rank_104 rfl (by decide) ?_
                  refine ev_eq (lv' := [(6, .int (nI (m + 1))), (5, .int (zI (((m : Nat) : Int)))), (0, .ref 0), (1, .int (nI (k))), (2, .int (nI (1))), (3, .int (zI (bfZ S q))), (4, .int (nI (q)))]) rfl rfl rfl ?_
                  refine ev_b bX7_rank_107_50 (lv' := [(6, .int (nI (m + 1))), (5, .int (zI (((m : Nat) : Int)))), (0, .ref 0), (1, .int (nI (k))), (2, .int (nI (1))), (3, .int (zI (bfZ S q))), (4, .int (nI (q)))]) (st' := []) (w2 := modW 0 S ((X.rf, wo, ta, ow, 0, X.sh, X.lt, X.ty, X.pl, X.nu, X.od, X.tt, X.oo, X.on, X.wn, X.pd, X.li, X.rr, X.rn, X.dr) : ModN) K) rfl ?_
                  rw [show nI (m + 1) = nI ((m + 1)) from congrArg nI (by omega)]
                  exact ih50 (m + 1) (by omega) _ hnext
            · skip
              obtain ⟨bq, hbq, ebq, ekq⟩ : ∃ b, outc S b ∧ bfZ S q = ((b : Nat) : Int) ∧ (rankLs (keysOf S (packsN S S.ca)) q) = ((keyS S b : Nat) : Int) := hbf.resolve_left (fun z => by omega)
              have hbql := outc_lt hS hbq
              have hbqw := (hT bq (out_shl hbq)).1
              have hbqb := wt_bnd hS bq
              have hak := ahead_key hS hbq hmo (hbqw.trans (out_wt hbq)) hmw2
              refine ev_eq (lv' := [(6, .int (nI (m))), (5, .int (zI (i))), (0, .ref 0), (1, .int (nI (k))), (2, .int (nI (1))), (3, .int (nI (bq))), (4, .int (nI (q)))]) (by rw [ebq, zI_nat]) rfl rfl ?_
              refine ev_b bX7_rank_74_78 (lv' := [(6, .int (nI (m))), (5, .int (zI (i))), (0, .ref 0), (1, .int (nI (k))), (2, .int (nI (1))), (3, .int (nI (bq))), (4, .int (nI (q)))]) (st' := [.int (nI (m)), .int (nI (bq)), .ref 0]) (w2 := modW 0 S ((X.rf, wo, ta, ow, 0, X.sh, X.lt, X.ty, X.pl, X.nu, X.od, X.tt, X.oo, X.on, X.wn, X.pd, X.li, X.rr, X.rn, X.dr) : ModN) K) rfl ?_
              refine ev_callM (Yc := mX7_isAhead) (st := []) dX7_rank_78 tw_1139 kX7_isAhead (m_X7_isAhead S ((X.rf, wo, ta, ow, 0, X.sh, X.lt, X.ty, X.pl, X.nu, X.od, X.tt, X.oo, X.on, X.wn, X.pd, X.li, X.rr, X.rn, X.dr) : ModN) K bq m (by omega) (by omega) (by show -1 ≤ wo bq ∧ wo bq ≤ 5000; omega) (by show -1 ≤ wo m ∧ wo m ≤ 5000; omega)) rfl rfl rfl rfl (by decide) (Nat.le_of_ble_eq_true rfl) (Nat.le_refl _) (Nat.le_refl _) (fun r w' h => by obtain ⟨-, rfl⟩ := h; exact mod_eq) ?_
              rintro _ _ ⟨rfl, rfl⟩
              refine ev_eq (lv' := [(6, .int (nI (m))), (5, .int (zI (i))), (0, .ref 0), (1, .int (nI (k))), (2, .int (nI (1))), (3, .int (nI (bq))), (4, .int (nI (q)))]) (st' := [.int (nI (b01 (aheadZ wo bq m)))]) (w' := modW 0 S ((X.rf, wo, ta, ow, 0, X.sh, X.lt, X.ty, X.pl, X.nu, X.od, X.tt, X.oo, X.on, X.wn, X.pd, X.li, X.rr, X.rn, X.dr) : ModN) K) rfl rfl rfl ?_
              refine ev_ifeq_b (tgt := 104) dX7_rank_81 (by decide) (fun h81 => ?_) (fun h81 => ?_)
              · skip
                have hnext := nx_skip hinv50 (fun _ => by rw [ekq]; have := fun z => h81 (hak.mpr z); omega)
                refine ev_eq (lv' := [(6, .int (nI (m))), (5, .int (zI (i))), (0, .ref 0), (1, .int (nI (k))), (2, .int (nI (1))), (3, .int (zI (bfZ S q))), (4, .int (nI (q)))]) (by rw [ebq, zI_nat]) rfl rfl ?_
                refine ev_iinc_n (x := m) (v := 1) dX7_rank_104 rfl (by decide) ?_
                refine ev_eq (lv' := [(6, .int (nI (m + 1))), (5, .int (zI (i))), (0, .ref 0), (1, .int (nI (k))), (2, .int (nI (1))), (3, .int (zI (bfZ S q))), (4, .int (nI (q)))]) rfl rfl rfl ?_
                refine ev_b bX7_rank_107_50 (lv' := [(6, .int (nI (m + 1))), (5, .int (zI (i))), (0, .ref 0), (1, .int (nI (k))), (2, .int (nI (1))), (3, .int (zI (bfZ S q))), (4, .int (nI (q)))]) (st' := []) (w2 := modW 0 S ((X.rf, wo, ta, ow, 0, X.sh, X.lt, X.ty, X.pl, X.nu, X.od, X.tt, X.oo, X.on, X.wn, X.pd, X.li, X.rr, X.rn, X.dr) : ModN) K) rfl ?_
                rw [show nI (m + 1) = nI ((m + 1)) from congrArg nI (by omega)]
                exact ih50 (m + 1) (by omega) _ hnext
              · skip
                have hkm : (rankLs (keysOf S (packsN S S.ca)) q) < ((keyS S m : Nat) : Int) := by rw [ekq]; have := hak.mp h81; omega
                refine ev_eq (lv' := [(6, .int (nI (m))), (5, .int (zI (i))), (0, .ref 0), (1, .int (nI (k))), (2, .int (nI (1))), (3, .int (zI (bfZ S q))), (4, .int (nI (q)))]) (by rw [ebq, zI_nat]) rfl rfl ?_
                refine ev_b bX7_rank_84_86 (lv' := [(6, .int (nI (m))), (5, .int (zI (i))), (0, .ref 0), (1, .int (nI (k))), (2, .int (nI (1))), (3, .int (zI (bfZ S q))), (4, .int (nI (q)))]) (st' := [.int (zI (i))]) (w2 := modW 0 S ((X.rf, wo, ta, ow, 0, X.sh, X.lt, X.ty, X.pl, X.nu, X.od, X.tt, X.oo, X.on, X.wn, X.pd, X.li, X.rr, X.rn, X.dr) : ModN) K) rfl ?_
                refine ev_if_lt_z (tgt := 100) (by constructor <;> omega) dX7_rank_86 (by decide) (fun h86 => ?_) (fun h86 => ?_)
                · skip
                  have hnext := nx_new hinv50 hmo hkm (fun b hb => by omega)
                  refine ev_b bX7_rank_100_104 (lv' := [(5, .int (nI (m))), (6, .int (nI (m))), (0, .ref 0), (1, .int (nI (k))), (2, .int (nI (1))), (3, .int (zI (bfZ S q))), (4, .int (nI (q)))]) (st' := []) (w2 := modW 0 S ((X.rf, wo, ta, ow, 0, X.sh, X.lt, X.ty, X.pl, X.nu, X.od, X.tt, X.oo, X.on, X.wn, X.pd, X.li, X.rr, X.rn, X.dr) : ModN) K) rfl ?_
                  refine ev_eq (lv' := [(5, .int (zI (((m : Nat) : Int)))), (6, .int (nI (m))), (0, .ref 0), (1, .int (nI (k))), (2, .int (nI (1))), (3, .int (zI (bfZ S q))), (4, .int (nI (q)))]) (by rw [zI_nat]) rfl rfl ?_
                  refine ev_iinc_n (x := m) (v := 1) dX7_rank_104 rfl (by decide) ?_
                  refine ev_eq (lv' := [(6, .int (nI (m + 1))), (5, .int (zI (((m : Nat) : Int)))), (0, .ref 0), (1, .int (nI (k))), (2, .int (nI (1))), (3, .int (zI (bfZ S q))), (4, .int (nI (q)))]) rfl rfl rfl ?_
                  refine ev_b bX7_rank_107_50 (lv' := [(6, .int (nI (m + 1))), (5, .int (zI (((m : Nat) : Int)))), (0, .ref 0), (1, .int (nI (k))), (2, .int (nI (1))), (3, .int (zI (bfZ S q))), (4, .int (nI (q)))]) (st' := []) (w2 := modW 0 S ((X.rf, wo, ta, ow, 0, X.sh, X.lt, X.ty, X.pl, X.nu, X.od, X.tt, X.oo, X.on, X.wn, X.pd, X.li, X.rr, X.rn, X.dr) : ModN) K) rfl ?_
                  rw [show nI (m + 1) = nI ((m + 1)) from congrArg nI (by omega)]
                  exact ih50 (m + 1) (by omega) _ hnext
                · skip
                  obtain ⟨bi, hbi, hbil, hbio, hbik, hbim⟩ : ∃ b : Nat, i = (b : Int) ∧ b < m ∧ outc S b ∧ (rankLs (keysOf S (packsN S S.ca)) q) < ((keyS S b : Nat) : Int) ∧ ∀ x, x < m → outc S x → (rankLs (keysOf S (packsN S S.ca)) q) < ((keyS S x : Nat) : Int) → keyS S b ≤ keyS S x := hinv50.resolve_left (fun z => by omega)
                  have hbi2 := outc_lt hS hbio
                  have hbiw := (hT bi (out_shl hbio)).1
                  have hbib := wt_bnd hS bi
                  have hai := ahead_key hS hmo hbio hmw2 (hbiw.trans (out_wt hbio))
                  refine ev_eq (lv' := [(6, .int (nI (m))), (5, .int (nI (bi))), (0, .ref 0), (1, .int (nI (k))), (2, .int (nI (1))), (3, .int (zI (bfZ S q))), (4, .int (nI (q)))]) (by rw [hbi, zI_nat]) rfl rfl ?_
                  refine ev_b bX7_rank_89_94 (lv' := [(6, .int (nI (m))), (5, .int (nI (bi))), (0, .ref 0), (1, .int (nI (k))), (2, .int (nI (1))), (3, .int (zI (bfZ S q))), (4, .int (nI (q)))]) (st' := [.int (nI (bi)), .int (nI (m)), .ref 0]) (w2 := modW 0 S ((X.rf, wo, ta, ow, 0, X.sh, X.lt, X.ty, X.pl, X.nu, X.od, X.tt, X.oo, X.on, X.wn, X.pd, X.li, X.rr, X.rn, X.dr) : ModN) K) rfl ?_
                  refine ev_callM (Yc := mX7_isAhead) (st := []) dX7_rank_94 tw_1139 kX7_isAhead (m_X7_isAhead S ((X.rf, wo, ta, ow, 0, X.sh, X.lt, X.ty, X.pl, X.nu, X.od, X.tt, X.oo, X.on, X.wn, X.pd, X.li, X.rr, X.rn, X.dr) : ModN) K m bi (by omega) (by omega) (by show -1 ≤ wo m ∧ wo m ≤ 5000; omega) (by show -1 ≤ wo bi ∧ wo bi ≤ 5000; omega)) rfl rfl rfl rfl (by decide) (Nat.le_of_ble_eq_true rfl) (Nat.le_refl _) (Nat.le_refl _) (fun r w' h => by obtain ⟨-, rfl⟩ := h; exact mod_eq) ?_
                  rintro _ _ ⟨rfl, rfl⟩
                  refine ev_eq (lv' := [(6, .int (nI (m))), (5, .int (nI (bi))), (0, .ref 0), (1, .int (nI (k))), (2, .int (nI (1))), (3, .int (zI (bfZ S q))), (4, .int (nI (q)))]) (st' := [.int (nI (b01 (aheadZ wo m bi)))]) (w' := modW 0 S ((X.rf, wo, ta, ow, 0, X.sh, X.lt, X.ty, X.pl, X.nu, X.od, X.tt, X.oo, X.on, X.wn, X.pd, X.li, X.rr, X.rn, X.dr) : ModN) K) rfl rfl rfl ?_
                  refine ev_ifeq_b (tgt := 104) dX7_rank_97 (by decide) (fun h97 => ?_) (fun h97 => ?_)
                  · skip
                    have hnext := nx_old hinv50 hbi (Nat.not_lt.mp (fun z => h97 (hai.mpr z)))
                    rw [hbi] at hnext
                    refine ev_eq (lv' := [(6, .int (nI (m))), (5, .int (zI (((bi : Nat) : Int)))), (0, .ref 0), (1, .int (nI (k))), (2, .int (nI (1))), (3, .int (zI (bfZ S q))), (4, .int (nI (q)))]) (by rw [zI_nat]) rfl rfl ?_
                    refine ev_iinc_n (x := m) (v := 1) dX7_rank_104 rfl (by decide) ?_
                    refine ev_eq (lv' := [(6, .int (nI (m + 1))), (5, .int (zI (((bi : Nat) : Int)))), (0, .ref 0), (1, .int (nI (k))), (2, .int (nI (1))), (3, .int (zI (bfZ S q))), (4, .int (nI (q)))]) rfl rfl rfl ?_
                    refine ev_b bX7_rank_107_50 (lv' := [(6, .int (nI (m + 1))), (5, .int (zI (((bi : Nat) : Int)))), (0, .ref 0), (1, .int (nI (k))), (2, .int (nI (1))), (3, .int (zI (bfZ S q))), (4, .int (nI (q)))]) (st' := []) (w2 := modW 0 S ((X.rf, wo, ta, ow, 0, X.sh, X.lt, X.ty, X.pl, X.nu, X.od, X.tt, X.oo, X.on, X.wn, X.pd, X.li, X.rr, X.rn, X.dr) : ModN) K) rfl ?_
                    rw [show nI (m + 1) = nI ((m + 1)) from congrArg nI (by omega)]
                    exact ih50 (m + 1) (by omega) _ hnext
                  · skip
                    have hnext := nx_new hinv50 hmo hkm (fun b hb => by rw [show b = bi by omega]; exact Nat.le_of_lt (hai.mp h97))
                    refine ev_b bX7_rank_100_104 (lv' := [(5, .int (nI (m))), (6, .int (nI (m))), (0, .ref 0), (1, .int (nI (k))), (2, .int (nI (1))), (3, .int (zI (bfZ S q))), (4, .int (nI (q)))]) (st' := []) (w2 := modW 0 S ((X.rf, wo, ta, ow, 0, X.sh, X.lt, X.ty, X.pl, X.nu, X.od, X.tt, X.oo, X.on, X.wn, X.pd, X.li, X.rr, X.rn, X.dr) : ModN) K) rfl ?_
                    refine ev_eq (lv' := [(5, .int (zI (((m : Nat) : Int)))), (6, .int (nI (m))), (0, .ref 0), (1, .int (nI (k))), (2, .int (nI (1))), (3, .int (zI (bfZ S q))), (4, .int (nI (q)))]) (by rw [zI_nat]) rfl rfl ?_
                    refine ev_iinc_n (x := m) (v := 1) dX7_rank_104 rfl (by decide) ?_
                    refine ev_eq (lv' := [(6, .int (nI (m + 1))), (5, .int (zI (((m : Nat) : Int)))), (0, .ref 0), (1, .int (nI (k))), (2, .int (nI (1))), (3, .int (zI (bfZ S q))), (4, .int (nI (q)))]) rfl rfl rfl ?_
                    refine ev_b bX7_rank_107_50 (lv' := [(6, .int (nI (m + 1))), (5, .int (zI (((m : Nat) : Int)))), (0, .ref 0), (1, .int (nI (k))), (2, .int (nI (1))), (3, .int (zI (bfZ S q))), (4, .int (nI (q)))]) (st' := []) (w2 := modW 0 S ((X.rf, wo, ta, ow, 0, X.sh, X.lt, X.ty, X.pl, X.nu, X.od, X.tt, X.oo, X.on, X.wn, X.pd, X.li, X.rr, X.rn, X.dr) : ModN) K) rfl ?_
                    rw [show nI (m + 1) = nI ((m + 1)) from congrArg nI (by omega)]
                    exact ih50 (m + 1) (by omega) _ hnext
      refine ev_pick (lv' := [(6, .int (nI (0))), (5, .int (zI (-9))), (0, .ref 0), (1, .int (nI (k))), (2, .int (nI (1))), (3, .int (zI (bfZ S q))), (4, .int (nI (q)))]) rfl ?_
      exact L50 (1 <<< S.ca) 0 (by omega) (-9) nx_start
  rw [show zI (-9) = zI (bfZ S 0) from congrArg zI (by exact rfl)]
  exact L37 ((keysOf S (packsN S S.ca)).length) 0 (by omega) 
theorem bX7_rank_135_140 {l : Launch} {E : XE} : Snd l E mX7_rank 135 140 (xs [x_aload 0, x_get 8 9, x_iload 3]) := Snd.cons (snd_aload_n (i := 0) dX7_rank_135 rfl) (Snd.cons (snd_get (ci := 8) (k := 9) dX7_rank_136 rfl inX7 (by decide) tw_923) (Snd.cons (snd_iload_n (i := 3) dX7_rank_139 rfl) Snd.nil))
set_option maxHeartbeats 4000000 in
set_option maxRecDepth 100000 in
theorem q_rank_w1 {l : Launch} {E : XE} (S : SaleN) (X : ModN) (K : Option (Nat → Nat)) (k : Nat) (hS : SaleOK S) (hM : MOK S X) (hk : k < 2147483648) (h : k < (keysOf S (packsN S S.ca)).length) : MetE l E mX7_rank (4) 0 0 [.ref 0, .int (nI (k)), .int (nI (1))] (modW 0 S X K) (MP S K (X.lt) (X.ty) (X.rr) (X.rn) (X.rf) (some (.int (nI (worthK (nextLs (keysOf S (packsN S S.ca)) (rankLs (keysOf S (packsN S S.ca)) k))))))) := by
  refine MetE.of (by decide +kernel) (Nat.le_of_ble_eq_true rfl) ?_
  have hca := hS.1
  have hpw := pow_ca hS
  have hac := ac_lt hS
  have hshl := shl_le hS
  have hkl : (keysOf S (packsN S S.ca)).length ≤ 1024 := Nat.le_trans keysOf_len (Nat.le_trans (packsN_len S _) hpw)
  refine ev_eq (lv' := [(0, .ref 0), (1, .int (nI (k))), (2, .int (nI (1)))]) (st' := []) (w' := modW 0 S X K) rfl rfl rfl ?_
  refine ev_b bX7_rank_0_1 (lv' := [(0, .ref 0), (1, .int (nI (k))), (2, .int (nI (1)))]) (st' := [.int (nI (k))]) (w2 := modW 0 S X K) rfl ?_
  refine ev_if_ge_n (tgt := 11) (by omega) dX7_rank_1 (by decide) (fun h1 => ?_) (fun h1 => (by exfalso; omega))
  refine ev_b bX7_rank_11_14 (lv' := [(0, .ref 0), (1, .int (nI (k))), (2, .int (nI (1)))]) (st' := [.int (nI (1)), .int (nI (0)), .int (nI (1))]) (w2 := modW 0 S X K) rfl ?_
  refine ev_callS (Yc := mX7_isIn) [] dX7_rank_14 tw_1036 kX7_isIn (m_X7_isIn_n 1 0 1 (by decide) (by decide) (by decide)) rfl (st := []) rfl (by decide) rfl (by decide) (Nat.le_of_ble_eq_true rfl) (Nat.le_refl _) (Nat.le_refl _) (fun r w' h => by obtain ⟨-, rfl⟩ := h; exact Nat.le_of_ble_eq_true rfl) ?_
  rintro _ _ ⟨rfl, rfl⟩
  refine ev_eq (lv' := [(0, .ref 0), (1, .int (nI (k))), (2, .int (nI (1)))]) (st' := [.int (nI (b01 (0 ≤ 1 ∧ 1 ≤ 1)))]) (w' := modW 0 S X K) rfl rfl rfl ?_
  refine ev_ifne_b (tgt := 27) dX7_rank_17 (by decide) (fun h17 => ?_) (fun h17 => (by exfalso; omega))
  refine ev_b bX7_rank_27_28 (lv' := [(0, .ref 0), (1, .int (nI (k))), (2, .int (nI (1)))]) (st' := [.ref 0]) (w2 := modW 0 S X K) rfl ?_
  refine ev_callM (Yc := mX7_table) (st := []) dX7_rank_28 tw_1112 kX7_table (m_X7_table_g S S.kd S.fg X K hS (kf_self hM.1) hM.2) rfl rfl rfl rfl (by decide) (Nat.le_of_ble_eq_true rfl) (Nat.le_refl _) (Nat.le_refl _) (fun r w' h => by obtain ⟨-, wo, ta, ow, rfl, -⟩ := h; exact mod_eq) ?_
  rintro _ _ ⟨rfl, wo, ta, ow, rfl, hT⟩
  refine ev_eq (lv' := [(0, .ref 0), (1, .int (nI (k))), (2, .int (nI (1)))]) (st' := []) (w' := modW 0 S ((X.rf, wo, ta, ow, 0, X.sh, X.lt, X.ty, X.pl, X.nu, X.od, X.tt, X.oo, X.on, X.wn, X.pd, X.li, X.rr, X.rn, X.dr) : ModN) K) rfl rfl rfl ?_
  refine ev_b bX7_rank_31_34 (lv' := [(3, .int (-9)), (0, .ref 0), (1, .int (nI (k))), (2, .int (nI (1)))]) (st' := []) (w2 := modW 0 S ((X.rf, wo, ta, ow, 0, X.sh, X.lt, X.ty, X.pl, X.nu, X.od, X.tt, X.oo, X.on, X.wn, X.pd, X.li, X.rr, X.rn, X.dr) : ModN) K) rfl ?_
  refine ev_eq (lv' := [(3, .int (zI (-9))), (0, .ref 0), (1, .int (nI (k))), (2, .int (nI (1)))]) (by rw [show (-9 : Int32) = zI (-9) from by decide]) rfl rfl ?_
  refine ev_b bX7_rank_34_37 (lv' := [(4, .int (nI (0))), (3, .int (zI (-9))), (0, .ref 0), (1, .int (nI (k))), (2, .int (nI (1)))]) (st' := []) (w2 := modW 0 S ((X.rf, wo, ta, ow, 0, X.sh, X.lt, X.ty, X.pl, X.nu, X.od, X.tt, X.oo, X.on, X.wn, X.pd, X.li, X.rr, X.rn, X.dr) : ModN) K) rfl ?_
  have L37 : ∀ (j_ q : Nat), q + j_ = k + 1 → Ev l E mX7_rank (4) 0 0 (modW 0 S X K) (MP S K (X.lt) (X.ty) (X.rr) (X.rn) (X.rf) (some (.int (nI (worthK (nextLs (keysOf S (packsN S S.ca)) (rankLs (keysOf S (packsN S S.ca)) k))))))) 0 0 37 [(4, .int (nI (q))), (3, .int (zI (bfZ S q))), (0, .ref 0), (1, .int (nI (k))), (2, .int (nI (1)))] [] (modW 0 S ((X.rf, wo, ta, ow, 0, X.sh, X.lt, X.ty, X.pl, X.nu, X.od, X.tt, X.oo, X.on, X.wn, X.pd, X.li, X.rr, X.rn, X.dr) : ModN) K) := by
    intro j_
    induction j_ with
    | zero =>
      intro q hk37  
      replace hk37 : q = k + 1 := hk37
      have hqk : q ≤ (keysOf S (packsN S S.ca)).length := by omega
      have hbf := bf_key hS hqk
      have hbb : -9 ≤ bfZ S q ∧ bfZ S q < 1024 := by
        rcases hbf with ⟨-, h2, -⟩ | ⟨b, h1, h2, -⟩
        · omega
        · have := outc_lt hS h1; omega
      refine ev_b bX7_rank_37_40 (lv' := [(4, .int (nI (q))), (3, .int (zI (bfZ S q))), (0, .ref 0), (1, .int (nI (k))), (2, .int (nI (1)))]) (st' := [.int (nI (k)), .int (nI (q))]) (w2 := modW 0 S ((X.rf, wo, ta, ow, 0, X.sh, X.lt, X.ty, X.pl, X.nu, X.od, X.tt, X.oo, X.on, X.wn, X.pd, X.li, X.rr, X.rn, X.dr) : ModN) K) rfl ?_
      refine ev_icmp_gt_n (tgt := 127) (by omega) (by omega) dX7_rank_40 (by decide) (fun h40 => ?_) (fun h40 => (by exfalso; omega))
      obtain ⟨bk, hbk, ek, ebk, ewk⟩ := rk_at hS h
      have hq1 : q = k + 1 := hk37
      have hbkl := outc_lt hS hbk
      refine ev_eq (lv' := [(4, .int (nI (q))), (3, .int (nI (bk))), (0, .ref 0), (1, .int (nI (k))), (2, .int (nI (1)))]) (by rw [hq1, show bfZ S (k + 1) = ((bidsN (nextLs (keysOf S (packsN S S.ca)) (rankLs (keysOf S (packsN S S.ca)) k)) : Nat) : Int) from rfl, ek, ebk, zI_nat]) rfl rfl ?_
      refine ev_b bX7_rank_127_128 (lv' := [(4, .int (nI (q))), (3, .int (nI (bk))), (0, .ref 0), (1, .int (nI (k))), (2, .int (nI (1)))]) (st' := [.int (nI (1))]) (w2 := modW 0 S ((X.rf, wo, ta, ow, 0, X.sh, X.lt, X.ty, X.pl, X.nu, X.od, X.tt, X.oo, X.on, X.wn, X.pd, X.li, X.rr, X.rn, X.dr) : ModN) K) rfl ?_
      refine ev_if_ne_n (tgt := 135) (by decide) dX7_rank_128 (by decide) (fun h128 => ?_) (fun h128 => (by exfalso; omega))
      refine ev_b bX7_rank_135_140 (lv' := [(4, .int (nI (q))), (3, .int (nI (bk))), (0, .ref 0), (1, .int (nI (k))), (2, .int (nI (1)))]) (st' := [.int (nI (bk)), .ref 8]) (w2 := modW 0 S ((X.rf, wo, ta, ow, 0, X.sh, X.lt, X.ty, X.pl, X.nu, X.od, X.tt, X.oo, X.on, X.wn, X.pd, X.li, X.rr, X.rn, X.dr) : ModN) K) rfl ?_
      refine ev_iald_z (f := wo) dX7_rank_140 rfl (by omega) (by decide) ?_
      refine ev_top (y := (nI (worthK (nextLs (keysOf S (packsN S S.ca)) (rankLs (keysOf S (packsN S S.ca)) k))))) (by rw [show wo bk = ((worthK (nextLs (keysOf S (packsN S S.ca)) (rankLs (keysOf S (packsN S S.ca)) k)) : Nat) : Int) from by rw [(hT bk (out_shl hbk)).1, out_wt hbk, ek, ewk]]; exact zI_nat _) ?_
      exact ev_iret dX7_rank_141 rfl mod_le (Nat.le_refl _) (Nat.le_refl _) ⟨by first | rfl | (rw [ek, ebk]), _, rfl, mok_fresh hM.1 rfl hT, rfl, rfl, rfl, rfl, rfl⟩
    | succ j_ ih37 =>
      intro q hk37  
      have hlt37 : q < k + 1 := by omega
      have hqk : q ≤ (keysOf S (packsN S S.ca)).length := by omega
      have hbf := bf_key hS hqk
      have hbb : -9 ≤ bfZ S q ∧ bfZ S q < 1024 := by
        rcases hbf with ⟨-, h2, -⟩ | ⟨b, h1, h2, -⟩
        · omega
        · have := outc_lt hS h1; omega
      refine ev_b bX7_rank_37_40 (lv' := [(4, .int (nI (q))), (3, .int (zI (bfZ S q))), (0, .ref 0), (1, .int (nI (k))), (2, .int (nI (1)))]) (st' := [.int (nI (k)), .int (nI (q))]) (w2 := modW 0 S ((X.rf, wo, ta, ow, 0, X.sh, X.lt, X.ty, X.pl, X.nu, X.od, X.tt, X.oo, X.on, X.wn, X.pd, X.li, X.rr, X.rn, X.dr) : ModN) K) rfl ?_
      refine ev_icmp_gt_n (tgt := 127) (by omega) (by omega) dX7_rank_40 (by decide) (fun h40 => (by exfalso; omega)) (fun h40 => ?_)
      refine ev_b bX7_rank_43_47 (lv' := [(5, .int (-9)), (4, .int (nI (q))), (3, .int (zI (bfZ S q))), (0, .ref 0), (1, .int (nI (k))), (2, .int (nI (1)))]) (st' := []) (w2 := modW 0 S ((X.rf, wo, ta, ow, 0, X.sh, X.lt, X.ty, X.pl, X.nu, X.od, X.tt, X.oo, X.on, X.wn, X.pd, X.li, X.rr, X.rn, X.dr) : ModN) K) rfl ?_
      refine ev_eq (lv' := [(5, .int (zI (-9))), (4, .int (nI (q))), (3, .int (zI (bfZ S q))), (0, .ref 0), (1, .int (nI (k))), (2, .int (nI (1)))]) (by rw [show (-9 : Int32) = zI (-9) from by decide]) rfl rfl ?_
      refine ev_b bX7_rank_47_50 (lv' := [(6, .int (nI (0))), (5, .int (zI (-9))), (4, .int (nI (q))), (3, .int (zI (bfZ S q))), (0, .ref 0), (1, .int (nI (k))), (2, .int (nI (1)))]) (st' := []) (w2 := modW 0 S ((X.rf, wo, ta, ow, 0, X.sh, X.lt, X.ty, X.pl, X.nu, X.od, X.tt, X.oo, X.on, X.wn, X.pd, X.li, X.rr, X.rn, X.dr) : ModN) K) rfl ?_
      have L50 : ∀ (j_ m : Nat), m + j_ = 1 <<< S.ca → ∀ (i : Int), (NxI S (rankLs (keysOf S (packsN S S.ca)) q) m i) → Ev l E mX7_rank (4) 0 0 (modW 0 S X K) (MP S K (X.lt) (X.ty) (X.rr) (X.rn) (X.rf) (some (.int (nI (worthK (nextLs (keysOf S (packsN S S.ca)) (rankLs (keysOf S (packsN S S.ca)) k))))))) 0 0 50 [(6, .int (nI (m))), (5, .int (zI (i))), (0, .ref 0), (1, .int (nI (k))), (2, .int (nI (1))), (3, .int (zI (bfZ S q))), (4, .int (nI (q)))] [] (modW 0 S ((X.rf, wo, ta, ow, 0, X.sh, X.lt, X.ty, X.pl, X.nu, X.od, X.tt, X.oo, X.on, X.wn, X.pd, X.li, X.rr, X.rn, X.dr) : ModN) K) := by
        intro j_
        induction j_ with
        | zero =>
          intro m hk50 i hinv50
          replace hk50 : m = 1 <<< S.ca := hk50
          subst hk50
          refine ev_b bX7_rank_50_57 (lv' := [(6, .int (nI ((1 <<< S.ca)))), (5, .int (zI (i))), (0, .ref 0), (1, .int (nI (k))), (2, .int (nI (1))), (3, .int (zI (bfZ S q))), (4, .int (nI (q)))]) (st' := [.int (nI (S.ca)), .int (nI (1)), .int (nI ((1 <<< S.ca)))]) (w2 := modW 0 S ((X.rf, wo, ta, ow, 0, X.sh, X.lt, X.ty, X.pl, X.nu, X.od, X.tt, X.oo, X.on, X.wn, X.pd, X.li, X.rr, X.rn, X.dr) : ModN) K) rfl ?_
          refine ev_ishl_n (by omega) dX7_rank_57 ?_
          refine ev_icmp_ge_n (tgt := 110) (by omega) (by omega) dX7_rank_58 (by decide) (fun h58 => ?_) (fun h58 => (by exfalso; omega))
          have hib := nx_bnd hinv50
          have hsm : q < (keysOf S (packsN S S.ca)).length → 0 ≤ i := fun z => (nx_some hS hinv50 z).1
          refine ev_b bX7_rank_110_112 (lv' := [(6, .int (nI ((1 <<< S.ca)))), (5, .int (zI (i))), (0, .ref 0), (1, .int (nI (k))), (2, .int (nI (1))), (3, .int (zI (bfZ S q))), (4, .int (nI (q)))]) (st' := [.int (zI (i))]) (w2 := modW 0 S ((X.rf, wo, ta, ow, 0, X.sh, X.lt, X.ty, X.pl, X.nu, X.od, X.tt, X.oo, X.on, X.wn, X.pd, X.li, X.rr, X.rn, X.dr) : ModN) K) rfl ?_
          refine ev_if_ge_z (tgt := 118) (by constructor <;> omega) dX7_rank_112 (by decide) (fun h112 => ?_) (fun h112 => (by exfalso; omega))
          refine ev_b bX7_rank_118_121 (lv' := [(3, .int (zI (i))), (6, .int (nI ((1 <<< S.ca)))), (5, .int (zI (i))), (0, .ref 0), (1, .int (nI (k))), (2, .int (nI (1))), (4, .int (nI (q)))]) (st' := []) (w2 := modW 0 S ((X.rf, wo, ta, ow, 0, X.sh, X.lt, X.ty, X.pl, X.nu, X.od, X.tt, X.oo, X.on, X.wn, X.pd, X.li, X.rr, X.rn, X.dr) : ModN) K) rfl ?_
          refine ev_iinc_n (x := q) (v := 1) dX7_rank_121 rfl (by decide) ?_
          refine ev_eq (lv' := [(4, .int (nI (q + 1))), (3, .int (zI (i))), (6, .int (nI ((1 <<< S.ca)))), (5, .int (zI (i))), (0, .ref 0), (1, .int (nI (k))), (2, .int (nI (1)))]) rfl rfl rfl ?_
          refine ev_b bX7_rank_124_37 (lv' := [(4, .int (nI (q + 1))), (3, .int (zI (i))), (6, .int (nI ((1 <<< S.ca)))), (5, .int (zI (i))), (0, .ref 0), (1, .int (nI (k))), (2, .int (nI (1)))]) (st' := []) (w2 := modW 0 S ((X.rf, wo, ta, ow, 0, X.sh, X.lt, X.ty, X.pl, X.nu, X.od, X.tt, X.oo, X.on, X.wn, X.pd, X.li, X.rr, X.rn, X.dr) : ModN) K) rfl ?_
          refine ev_pick (lv' := [(4, .int (nI (q + 1))), (3, .int (zI (i))), (0, .ref 0), (1, .int (nI (k))), (2, .int (nI (1)))]) rfl ?_
          rw [show nI (q + 1) = nI ((q + 1)) from congrArg nI (by omega)]
          rw [show zI (i) = zI (bfZ S (q + 1)) from congrArg zI (by exact (nx_some hS hinv50 (by omega)).2)]
          exact ih37 (q + 1) (by omega) 
        | succ j_ ih50 =>
          intro m hk50 i hinv50
          have hlt50 : m < 1 <<< S.ca := by omega
          have hmw := (hT m hlt50).1
          have hmb := wt_bnd hS m
          have hib := nx_bnd hinv50
          refine ev_b bX7_rank_50_57 (lv' := [(6, .int (nI (m))), (5, .int (zI (i))), (0, .ref 0), (1, .int (nI (k))), (2, .int (nI (1))), (3, .int (zI (bfZ S q))), (4, .int (nI (q)))]) (st' := [.int (nI (S.ca)), .int (nI (1)), .int (nI (m))]) (w2 := modW 0 S ((X.rf, wo, ta, ow, 0, X.sh, X.lt, X.ty, X.pl, X.nu, X.od, X.tt, X.oo, X.on, X.wn, X.pd, X.li, X.rr, X.rn, X.dr) : ModN) K) rfl ?_
          refine ev_ishl_n (by omega) dX7_rank_57 ?_
          refine ev_icmp_ge_n (tgt := 110) (by omega) (by omega) dX7_rank_58 (by decide) (fun h58 => (by exfalso; omega)) (fun h58 => ?_)
          refine ev_b bX7_rank_61_64 (lv' := [(6, .int (nI (m))), (5, .int (zI (i))), (0, .ref 0), (1, .int (nI (k))), (2, .int (nI (1))), (3, .int (zI (bfZ S q))), (4, .int (nI (q)))]) (st' := [.int (nI (m)), .ref 0]) (w2 := modW 0 S ((X.rf, wo, ta, ow, 0, X.sh, X.lt, X.ty, X.pl, X.nu, X.od, X.tt, X.oo, X.on, X.wn, X.pd, X.li, X.rr, X.rn, X.dr) : ModN) K) rfl ?_
          refine ev_callM (Yc := mX7_isOutcome) (st := []) dX7_rank_64 tw_1192 kX7_isOutcome (m_X7_isOutcome S ((X.rf, wo, ta, ow, 0, X.sh, X.lt, X.ty, X.pl, X.nu, X.od, X.tt, X.oo, X.on, X.wn, X.pd, X.li, X.rr, X.rn, X.dr) : ModN) K m hS (by omega) (by show -1 ≤ wo m ∧ wo m ≤ 5000; omega)) rfl rfl rfl rfl (by decide) (Nat.le_of_ble_eq_true rfl) (Nat.le_refl _) (Nat.le_refl _) (fun r w' h => by obtain ⟨-, rfl⟩ := h; exact mod_eq) ?_
          rintro _ _ ⟨rfl, rfl⟩
          refine ev_eq (lv' := [(6, .int (nI (m))), (5, .int (zI (i))), (0, .ref 0), (1, .int (nI (k))), (2, .int (nI (1))), (3, .int (zI (bfZ S q))), (4, .int (nI (q)))]) (st' := [.int (nI (b01 (andn m S.ac = 0 ∧ 0 ≤ wo m)))]) (w' := modW 0 S ((X.rf, wo, ta, ow, 0, X.sh, X.lt, X.ty, X.pl, X.nu, X.od, X.tt, X.oo, X.on, X.wn, X.pd, X.li, X.rr, X.rn, X.dr) : ModN) K) rfl rfl rfl ?_
          refine ev_ifeq_b (tgt := 104) dX7_rank_67 (by decide) (fun h67 => ?_) (fun h67 => ?_)
          · skip
            have hnext := nx_skip hinv50 (fun z => absurd (show andn m S.ac = 0 ∧ 0 ≤ wo m from ⟨out_sub z, by rw [hmw, out_wt z]; omega⟩) h67)
            refine ev_iinc_n (x := m) (v := 1) dX7_rank_104 rfl (by decide) ?_
            refine ev_eq (lv' := [(6, .int (nI (m + 1))), (5, .int (zI (i))), (0, .ref 0), (1, .int (nI (k))), (2, .int (nI (1))), (3, .int (zI (bfZ S q))), (4, .int (nI (q)))]) rfl rfl rfl ?_
            refine ev_b bX7_rank_107_50 (lv' := [(6, .int (nI (m + 1))), (5, .int (zI (i))), (0, .ref 0), (1, .int (nI (k))), (2, .int (nI (1))), (3, .int (zI (bfZ S q))), (4, .int (nI (q)))]) (st' := []) (w2 := modW 0 S ((X.rf, wo, ta, ow, 0, X.sh, X.lt, X.ty, X.pl, X.nu, X.od, X.tt, X.oo, X.on, X.wn, X.pd, X.li, X.rr, X.rn, X.dr) : ModN) K) rfl ?_
            rw [show nI (m + 1) = nI ((m + 1)) from congrArg nI (by omega)]
            exact ih50 (m + 1) (by omega) _ hnext
          · skip
            have hmo : outc S m := (out_iff hS h67.1).mpr (by rw [← hmw]; exact h67.2)
            have hmw2 := hmw.trans (out_wt hmo)
            refine ev_b bX7_rank_70_71 (lv' := [(6, .int (nI (m))), (5, .int (zI (i))), (0, .ref 0), (1, .int (nI (k))), (2, .int (nI (1))), (3, .int (zI (bfZ S q))), (4, .int (nI (q)))]) (st' := [.int (zI (bfZ S q))]) (w2 := modW 0 S ((X.rf, wo, ta, ow, 0, X.sh, X.lt, X.ty, X.pl, X.nu, X.od, X.tt, X.oo, X.on, X.wn, X.pd, X.li, X.rr, X.rn, X.dr) : ModN) K) rfl ?_
            refine ev_if_lt_z (tgt := 84) (by constructor <;> omega) dX7_rank_71 (by decide) (fun h71 => ?_) (fun h71 => ?_)
            · skip
              have hkm : (rankLs (keysOf S (packsN S S.ca)) q) < ((keyS S m : Nat) : Int) := by
                rcases hbf with ⟨-, -, h3⟩ | ⟨b, -, h2, -⟩
                · rw [h3]; omega
                · omega
              refine ev_b bX7_rank_84_86 (lv' := [(6, .int (nI (m))), (5, .int (zI (i))), (0, .ref 0), (1, .int (nI (k))), (2, .int (nI (1))), (3, .int (zI (bfZ S q))), (4, .int (nI (q)))]) (st' := [.int (zI (i))]) (w2 := modW 0 S ((X.rf, wo, ta, ow, 0, X.sh, X.lt, X.ty, X.pl, X.nu, X.od, X.tt, X.oo, X.on, X.wn, X.pd, X.li, X.rr, X.rn, X.dr) : ModN) K) rfl ?_
              refine ev_if_lt_z (tgt := 100) (by constructor <;> omega) dX7_rank_86 (by decide) (fun h86 => ?_) (fun h86 => ?_)
              · skip
                have hnext := nx_new hinv50 hmo hkm (fun b hb => by omega)
                refine ev_b bX7_rank_100_104 (lv' := [(5, .int (nI (m))), (6, .int (nI (m))), (0, .ref 0), (1, .int (nI (k))), (2, .int (nI (1))), (3, .int (zI (bfZ S q))), (4, .int (nI (q)))]) (st' := []) (w2 := modW 0 S ((X.rf, wo, ta, ow, 0, X.sh, X.lt, X.ty, X.pl, X.nu, X.od, X.tt, X.oo, X.on, X.wn, X.pd, X.li, X.rr, X.rn, X.dr) : ModN) K) rfl ?_
                refine ev_eq (lv' := [(5, .int (zI (((m : Nat) : Int)))), (6, .int (nI (m))), (0, .ref 0), (1, .int (nI (k))), (2, .int (nI (1))), (3, .int (zI (bfZ S q))), (4, .int (nI (q)))]) (by rw [zI_nat]) rfl rfl ?_
                refine ev_iinc_n (x := m) (v := 1) dX7_rank_104 rfl (by decide) ?_
                refine ev_eq (lv' := [(6, .int (nI (m + 1))), (5, .int (zI (((m : Nat) : Int)))), (0, .ref 0), (1, .int (nI (k))), (2, .int (nI (1))), (3, .int (zI (bfZ S q))), (4, .int (nI (q)))]) rfl rfl rfl ?_
                refine ev_b bX7_rank_107_50 (lv' := [(6, .int (nI (m + 1))), (5, .int (zI (((m : Nat) : Int)))), (0, .ref 0), (1, .int (nI (k))), (2, .int (nI (1))), (3, .int (zI (bfZ S q))), (4, .int (nI (q)))]) (st' := []) (w2 := modW 0 S ((X.rf, wo, ta, ow, 0, X.sh, X.lt, X.ty, X.pl, X.nu, X.od, X.tt, X.oo, X.on, X.wn, X.pd, X.li, X.rr, X.rn, X.dr) : ModN) K) rfl ?_
                rw [show nI (m + 1) = nI ((m + 1)) from congrArg nI (by omega)]
                exact ih50 (m + 1) (by omega) _ hnext
              · skip
                obtain ⟨bi, hbi, hbil, hbio, hbik, hbim⟩ : ∃ b : Nat, i = (b : Int) ∧ b < m ∧ outc S b ∧ (rankLs (keysOf S (packsN S S.ca)) q) < ((keyS S b : Nat) : Int) ∧ ∀ x, x < m → outc S x → (rankLs (keysOf S (packsN S S.ca)) q) < ((keyS S x : Nat) : Int) → keyS S b ≤ keyS S x := hinv50.resolve_left (fun z => by omega)
                have hbi2 := outc_lt hS hbio
                have hbiw := (hT bi (out_shl hbio)).1
                have hbib := wt_bnd hS bi
                have hai := ahead_key hS hmo hbio hmw2 (hbiw.trans (out_wt hbio))
                refine ev_eq (lv' := [(6, .int (nI (m))), (5, .int (nI (bi))), (0, .ref 0), (1, .int (nI (k))), (2, .int (nI (1))), (3, .int (zI (bfZ S q))), (4, .int (nI (q)))]) (by rw [hbi, zI_nat]) rfl rfl ?_
                refine ev_b bX7_rank_89_94 (lv' := [(6, .int (nI (m))), (5, .int (nI (bi))), (0, .ref 0), (1, .int (nI (k))), (2, .int (nI (1))), (3, .int (zI (bfZ S q))), (4, .int (nI (q)))]) (st' := [.int (nI (bi)), .int (nI (m)), .ref 0]) (w2 := modW 0 S ((X.rf, wo, ta, ow, 0, X.sh, X.lt, X.ty, X.pl, X.nu, X.od, X.tt, X.oo, X.on, X.wn, X.pd, X.li, X.rr, X.rn, X.dr) : ModN) K) rfl ?_
                refine ev_callM (Yc := mX7_isAhead) (st := []) dX7_rank_94 tw_1139 kX7_isAhead (m_X7_isAhead S ((X.rf, wo, ta, ow, 0, X.sh, X.lt, X.ty, X.pl, X.nu, X.od, X.tt, X.oo, X.on, X.wn, X.pd, X.li, X.rr, X.rn, X.dr) : ModN) K m bi (by omega) (by omega) (by show -1 ≤ wo m ∧ wo m ≤ 5000; omega) (by show -1 ≤ wo bi ∧ wo bi ≤ 5000; omega)) rfl rfl rfl rfl (by decide) (Nat.le_of_ble_eq_true rfl) (Nat.le_refl _) (Nat.le_refl _) (fun r w' h => by obtain ⟨-, rfl⟩ := h; exact mod_eq) ?_
                rintro _ _ ⟨rfl, rfl⟩
                refine ev_eq (lv' := [(6, .int (nI (m))), (5, .int (nI (bi))), (0, .ref 0), (1, .int (nI (k))), (2, .int (nI (1))), (3, .int (zI (bfZ S q))), (4, .int (nI (q)))]) (st' := [.int (nI (b01 (aheadZ wo m bi)))]) (w' := modW 0 S ((X.rf, wo, ta, ow, 0, X.sh, X.lt, X.ty, X.pl, X.nu, X.od, X.tt, X.oo, X.on, X.wn, X.pd, X.li, X.rr, X.rn, X.dr) : ModN) K) rfl rfl rfl ?_
                refine ev_ifeq_b (tgt := 104) dX7_rank_97 (by decide) (fun h97 => ?_) (fun h97 => ?_)
                · skip
                  have hnext := nx_old hinv50 hbi (Nat.not_lt.mp (fun z => h97 (hai.mpr z)))
                  rw [hbi] at hnext
                  refine ev_eq (lv' := [(6, .int (nI (m))), (5, .int (zI (((bi : Nat) : Int)))), (0, .ref 0), (1, .int (nI (k))), (2, .int (nI (1))), (3, .int (zI (bfZ S q))), (4, .int (nI (q)))]) (by rw [zI_nat]) rfl rfl ?_
                  refine ev_iinc_n (x := m) (v := 1) dX7_rank_104 rfl (by decide) ?_
                  refine ev_eq (lv' := [(6, .int (nI (m + 1))), (5, .int (zI (((bi : Nat) : Int)))), (0, .ref 0), (1, .int (nI (k))), (2, .int (nI (1))), (3, .int (zI (bfZ S q))), (4, .int (nI (q)))]) rfl rfl rfl ?_
                  refine ev_b bX7_rank_107_50 (lv' := [(6, .int (nI (m + 1))), (5, .int (zI (((bi : Nat) : Int)))), (0, .ref 0), (1, .int (nI (k))), (2, .int (nI (1))), (3, .int (zI (bfZ S q))), (4, .int (nI (q)))]) (st' := []) (w2 := modW 0 S ((X.rf, wo, ta, ow, 0, X.sh, X.lt, X.ty, X.pl, X.nu, X.od, X.tt, X.oo, X.on, X.wn, X.pd, X.li, X.rr, X.rn, X.dr) : ModN) K) rfl ?_
                  rw [show nI (m + 1) = nI ((m + 1)) from congrArg nI (by omega)]
                  exact ih50 (m + 1) (by omega) _ hnext
                · skip
                  have hnext := nx_new hinv50 hmo hkm (fun b hb => by rw [show b = bi by omega]; exact Nat.le_of_lt (hai.mp h97))
                  refine ev_b bX7_rank_100_104 (lv' := [(5, .int (nI (m))), (6, .int (nI (m))), (0, .ref 0), (1, .int (nI (k))), (2, .int (nI (1))), (3, .int (zI (bfZ S q))), (4, .int (nI (q)))]) (st' := []) (w2 := modW 0 S ((X.rf, wo, ta, ow, 0, X.sh, X.lt, X.ty, X.pl, X.nu, X.od, X.tt, X.oo, X.on, X.wn, X.pd, X.li, X.rr, X.rn, X.dr) : ModN) K) rfl ?_
                  refine ev_eq (lv' := [(5, .int (zI (((m : Nat) : Int)))), (6, .int (nI (m))), (0, .ref 0), (1, .int (nI (k))), (2, .int (nI (1))), (3, .int (zI (bfZ S q))), (4, .int (nI (q)))]) (by rw [zI_nat]) rfl rfl ?_
                  refine ev_iinc_n (x := m) (v := 1) dX7_rank_104 rfl (by decide) ?_
                  refine ev_eq (lv' := [(6, .int (nI (m + 1))), (5, .int (zI (((m : Nat) : Int)))), (0, .ref 0), (1, .int (nI (k))), (2, .int (nI (1))), (3, .int (zI (bfZ S q))), (4, .int (nI (q)))]) rfl rfl rfl ?_
                  refine ev_b bX7_rank_107_50 (lv' := [(6, .int (nI (m + 1))), (5, .int (zI (((m : Nat) : Int)))), (0, .ref 0), (1, .int (nI (k))), (2, .int (nI (1))), (3, .int (zI (bfZ S q))), (4, .int (nI (q)))]) (st' := []) (w2 := modW 0 S ((X.rf, wo, ta, ow, 0, X.sh, X.lt, X.ty, X.pl, X.nu, X.od, X.tt, X.oo, X.on, X.wn, X.pd, X.li, X.rr, X.rn, X.dr) : ModN) K) rfl ?_
                  rw [show nI (m + 1) = nI ((m + 1)) from congrArg nI (by omega)]
                  exact ih50 (m + 1) (by omega) _ hnext
            · skip
              obtain ⟨bq, hbq, ebq, ekq⟩ : ∃ b, outc S b ∧ bfZ S q = ((b : Nat) : Int) ∧ (rankLs (keysOf S (packsN S S.ca)) q) = ((keyS S b : Nat) : Int) := hbf.resolve_left (fun z => by omega)
              have hbql := outc_lt hS hbq
              have hbqw := (hT bq (out_shl hbq)).1
              have hbqb := wt_bnd hS bq
              have hak := ahead_key hS hbq hmo (hbqw.trans (out_wt hbq)) hmw2
              refine ev_eq (lv' := [(6, .int (nI (m))), (5, .int (zI (i))), (0, .ref 0), (1, .int (nI (k))), (2, .int (nI (1))), (3, .int (nI (bq))), (4, .int (nI (q)))]) (by rw [ebq, zI_nat]) rfl rfl ?_
              refine ev_b bX7_rank_74_78 (lv' := [(6, .int (nI (m))), (5, .int (zI (i))), (0, .ref 0), (1, .int (nI (k))), (2, .int (nI (1))), (3, .int (nI (bq))), (4, .int (nI (q)))]) (st' := [.int (nI (m)), .int (nI (bq)), .ref 0]) (w2 := modW 0 S ((X.rf, wo, ta, ow, 0, X.sh, X.lt, X.ty, X.pl, X.nu, X.od, X.tt, X.oo, X.on, X.wn, X.pd, X.li, X.rr, X.rn, X.dr) : ModN) K) rfl ?_
              refine ev_callM (Yc := mX7_isAhead) (st := []) dX7_rank_78 tw_1139 kX7_isAhead (m_X7_isAhead S ((X.rf, wo, ta, ow, 0, X.sh, X.lt, X.ty, X.pl, X.nu, X.od, X.tt, X.oo, X.on, X.wn, X.pd, X.li, X.rr, X.rn, X.dr) : ModN) K bq m (by omega) (by omega) (by show -1 ≤ wo bq ∧ wo bq ≤ 5000; omega) (by show -1 ≤ wo m ∧ wo m ≤ 5000; omega)) rfl rfl rfl rfl (by decide) (Nat.le_of_ble_eq_true rfl) (Nat.le_refl _) (Nat.le_refl _) (fun r w' h => by obtain ⟨-, rfl⟩ := h; exact mod_eq) ?_
              rintro _ _ ⟨rfl, rfl⟩
              refine ev_eq (lv' := [(6, .int (nI (m))), (5, .int (zI (i))), (0, .ref 0), (1, .int (nI (k))), (2, .int (nI (1))), (3, .int (nI (bq))), (4, .int (nI (q)))]) (st' := [.int (nI (b01 (aheadZ wo bq m)))]) (w' := modW 0 S ((X.rf, wo, ta, ow, 0, X.sh, X.lt, X.ty, X.pl, X.nu, X.od, X.tt, X.oo, X.on, X.wn, X.pd, X.li, X.rr, X.rn, X.dr) : ModN) K) rfl rfl rfl ?_
              refine ev_ifeq_b (tgt := 104) dX7_rank_81 (by decide) (fun h81 => ?_) (fun h81 => ?_)
              · skip
                have hnext := nx_skip hinv50 (fun _ => by rw [ekq]; have := fun z => h81 (hak.mpr z); omega)
                refine ev_eq (lv' := [(6, .int (nI (m))), (5, .int (zI (i))), (0, .ref 0), (1, .int (nI (k))), (2, .int (nI (1))), (3, .int (zI (bfZ S q))), (4, .int (nI (q)))]) (by rw [ebq, zI_nat]) rfl rfl ?_
                refine ev_iinc_n (x := m) (v := 1) dX7_rank_104 rfl (by decide) ?_
                refine ev_eq (lv' := [(6, .int (nI (m + 1))), (5, .int (zI (i))), (0, .ref 0), (1, .int (nI (k))), (2, .int (nI (1))), (3, .int (zI (bfZ S q))), (4, .int (nI (q)))]) rfl rfl rfl ?_
                refine ev_b bX7_rank_107_50 (lv' := [(6, .int (nI (m + 1))), (5, .int (zI (i))), (0, .ref 0), (1, .int (nI (k))), (2, .int (nI (1))), (3, .int (zI (bfZ S q))), (4, .int (nI (q)))]) (st' := []) (w2 := modW 0 S ((X.rf, wo, ta, ow, 0, X.sh, X.lt, X.ty, X.pl, X.nu, X.od, X.tt, X.oo, X.on, X.wn, X.pd, X.li, X.rr, X.rn, X.dr) : ModN) K) rfl ?_
                rw [show nI (m + 1) = nI ((m + 1)) from congrArg nI (by omega)]
                exact ih50 (m + 1) (by omega) _ hnext
              · skip
                have hkm : (rankLs (keysOf S (packsN S S.ca)) q) < ((keyS S m : Nat) : Int) := by rw [ekq]; have := hak.mp h81; omega
                refine ev_eq (lv' := [(6, .int (nI (m))), (5, .int (zI (i))), (0, .ref 0), (1, .int (nI (k))), (2, .int (nI (1))), (3, .int (zI (bfZ S q))), (4, .int (nI (q)))]) (by rw [ebq, zI_nat]) rfl rfl ?_
                refine ev_b bX7_rank_84_86 (lv' := [(6, .int (nI (m))), (5, .int (zI (i))), (0, .ref 0), (1, .int (nI (k))), (2, .int (nI (1))), (3, .int (zI (bfZ S q))), (4, .int (nI (q)))]) (st' := [.int (zI (i))]) (w2 := modW 0 S ((X.rf, wo, ta, ow, 0, X.sh, X.lt, X.ty, X.pl, X.nu, X.od, X.tt, X.oo, X.on, X.wn, X.pd, X.li, X.rr, X.rn, X.dr) : ModN) K) rfl ?_
                refine ev_if_lt_z (tgt := 100) (by constructor <;> omega) dX7_rank_86 (by decide) (fun h86 => ?_) (fun h86 => ?_)
                · skip
                  have hnext := nx_new hinv50 hmo hkm (fun b hb => by omega)
                  refine ev_b bX7_rank_100_104 (lv' := [(5, .int (nI (m))), (6, .int (nI (m))), (0, .ref 0), (1, .int (nI (k))), (2, .int (nI (1))), (3, .int (zI (bfZ S q))), (4, .int (nI (q)))]) (st' := []) (w2 := modW 0 S ((X.rf, wo, ta, ow, 0, X.sh, X.lt, X.ty, X.pl, X.nu, X.od, X.tt, X.oo, X.on, X.wn, X.pd, X.li, X.rr, X.rn, X.dr) : ModN) K) rfl ?_
                  refine ev_eq (lv' := [(5, .int (zI (((m : Nat) : Int)))), (6, .int (nI (m))), (0, .ref 0), (1, .int (nI (k))), (2, .int (nI (1))), (3, .int (zI (bfZ S q))), (4, .int (nI (q)))]) (by rw [zI_nat]) rfl rfl ?_
                  refine ev_iinc_n (x := m) (v := 1) dX7_rank_104 rfl (by decide) ?_
                  refine ev_eq (lv' := [(6, .int (nI (m + 1))), (5, .int (zI (((m : Nat) : Int)))), (0, .ref 0), (1, .int (nI (k))), (2, .int (nI (1))), (3, .int (zI (bfZ S q))), (4, .int (nI (q)))]) rfl rfl rfl ?_
                  refine ev_b bX7_rank_107_50 (lv' := [(6, .int (nI (m + 1))), (5, .int (zI (((m : Nat) : Int)))), (0, .ref 0), (1, .int (nI (k))), (2, .int (nI (1))), (3, .int (zI (bfZ S q))), (4, .int (nI (q)))]) (st' := []) (w2 := modW 0 S ((X.rf, wo, ta, ow, 0, X.sh, X.lt, X.ty, X.pl, X.nu, X.od, X.tt, X.oo, X.on, X.wn, X.pd, X.li, X.rr, X.rn, X.dr) : ModN) K) rfl ?_
                  rw [show nI (m + 1) = nI ((m + 1)) from congrArg nI (by omega)]
                  exact ih50 (m + 1) (by omega) _ hnext
                · skip
                  obtain ⟨bi, hbi, hbil, hbio, hbik, hbim⟩ : ∃ b : Nat, i = (b : Int) ∧ b < m ∧ outc S b ∧ (rankLs (keysOf S (packsN S S.ca)) q) < ((keyS S b : Nat) : Int) ∧ ∀ x, x < m → outc S x → (rankLs (keysOf S (packsN S S.ca)) q) < ((keyS S x : Nat) : Int) → keyS S b ≤ keyS S x := hinv50.resolve_left (fun z => by omega)
                  have hbi2 := outc_lt hS hbio
                  have hbiw := (hT bi (out_shl hbio)).1
                  have hbib := wt_bnd hS bi
                  have hai := ahead_key hS hmo hbio hmw2 (hbiw.trans (out_wt hbio))
                  refine ev_eq (lv' := [(6, .int (nI (m))), (5, .int (nI (bi))), (0, .ref 0), (1, .int (nI (k))), (2, .int (nI (1))), (3, .int (zI (bfZ S q))), (4, .int (nI (q)))]) (by rw [hbi, zI_nat]) rfl rfl ?_
                  refine ev_b bX7_rank_89_94 (lv' := [(6, .int (nI (m))), (5, .int (nI (bi))), (0, .ref 0), (1, .int (nI (k))), (2, .int (nI (1))), (3, .int (zI (bfZ S q))), (4, .int (nI (q)))]) (st' := [.int (nI (bi)), .int (nI (m)), .ref 0]) (w2 := modW 0 S ((X.rf, wo, ta, ow, 0, X.sh, X.lt, X.ty, X.pl, X.nu, X.od, X.tt, X.oo, X.on, X.wn, X.pd, X.li, X.rr, X.rn, X.dr) : ModN) K) rfl ?_
                  refine ev_callM (Yc := mX7_isAhead) (st := []) dX7_rank_94 tw_1139 kX7_isAhead (m_X7_isAhead S ((X.rf, wo, ta, ow, 0, X.sh, X.lt, X.ty, X.pl, X.nu, X.od, X.tt, X.oo, X.on, X.wn, X.pd, X.li, X.rr, X.rn, X.dr) : ModN) K m bi (by omega) (by omega) (by show -1 ≤ wo m ∧ wo m ≤ 5000; omega) (by show -1 ≤ wo bi ∧ wo bi ≤ 5000; omega)) rfl rfl rfl rfl (by decide) (Nat.le_of_ble_eq_true rfl) (Nat.le_refl _) (Nat.le_refl _) (fun r w' h => by obtain ⟨-, rfl⟩ := h; exact mod_eq) ?_
                  rintro _ _ ⟨rfl, rfl⟩
                  refine ev_eq (lv' := [(6, .int (nI (m))), (5, .int (nI (bi))), (0, .ref 0), (1, .int (nI (k))), (2, .int (nI (1))), (3, .int (zI (bfZ S q))), (4, .int (nI (q)))]) (st' := [.int (nI (b01 (aheadZ wo m bi)))]) (w' := modW 0 S ((X.rf, wo, ta, ow, 0, X.sh, X.lt, X.ty, X.pl, X.nu, X.od, X.tt, X.oo, X.on, X.wn, X.pd, X.li, X.rr, X.rn, X.dr) : ModN) K) rfl rfl rfl ?_
                  refine ev_ifeq_b (tgt := 104) dX7_rank_97 (by decide) (fun h97 => ?_) (fun h97 => ?_)
                  · skip
                    have hnext := nx_old hinv50 hbi (Nat.not_lt.mp (fun z => h97 (hai.mpr z)))
                    rw [hbi] at hnext
                    refine ev_eq (lv' := [(6, .int (nI (m))), (5, .int (zI (((bi : Nat) : Int)))), (0, .ref 0), (1, .int (nI (k))), (2, .int (nI (1))), (3, .int (zI (bfZ S q))), (4, .int (nI (q)))]) (by rw [zI_nat]) rfl rfl ?_
                    refine ev_iinc_n (x := m) (v := 1) dX7_rank_104 rfl (by decide) ?_
                    refine ev_eq (lv' := [(6, .int (nI (m + 1))), (5, .int (zI (((bi : Nat) : Int)))), (0, .ref 0), (1, .int (nI (k))), (2, .int (nI (1))), (3, .int (zI (bfZ S q))), (4, .int (nI (q)))]) rfl rfl rfl ?_
                    refine ev_b bX7_rank_107_50 (lv' := [(6, .int (nI (m + 1))), (5, .int (zI (((bi : Nat) : Int)))), (0, .ref 0), (1, .int (nI (k))), (2, .int (nI (1))), (3, .int (zI (bfZ S q))), (4, .int (nI (q)))]) (st' := []) (w2 := modW 0 S ((X.rf, wo, ta, ow, 0, X.sh, X.lt, X.ty, X.pl, X.nu, X.od, X.tt, X.oo, X.on, X.wn, X.pd, X.li, X.rr, X.rn, X.dr) : ModN) K) rfl ?_
                    rw [show nI (m + 1) = nI ((m + 1)) from congrArg nI (by omega)]
                    exact ih50 (m + 1) (by omega) _ hnext
                  · skip
                    have hnext := nx_new hinv50 hmo hkm (fun b hb => by rw [show b = bi by omega]; exact Nat.le_of_lt (hai.mp h97))
                    refine ev_b bX7_rank_100_104 (lv' := [(5, .int (nI (m))), (6, .int (nI (m))), (0, .ref 0), (1, .int (nI (k))), (2, .int (nI (1))), (3, .int (zI (bfZ S q))), (4, .int (nI (q)))]) (st' := []) (w2 := modW 0 S ((X.rf, wo, ta, ow, 0, X.sh, X.lt, X.ty, X.pl, X.nu, X.od, X.tt, X.oo, X.on, X.wn, X.pd, X.li, X.rr, X.rn, X.dr) : ModN) K) rfl ?_
                    refine ev_eq (lv' := [(5, .int (zI (((m : Nat) : Int)))), (6, .int (nI (m))), (0, .ref 0), (1, .int (nI (k))), (2, .int (nI (1))), (3, .int (zI (bfZ S q))), (4, .int (nI (q)))]) (by rw [zI_nat]) rfl rfl ?_
                    refine ev_iinc_n (x := m) (v := 1) dX7_rank_104 rfl (by decide) ?_
                    refine ev_eq (lv' := [(6, .int (nI (m + 1))), (5, .int (zI (((m : Nat) : Int)))), (0, .ref 0), (1, .int (nI (k))), (2, .int (nI (1))), (3, .int (zI (bfZ S q))), (4, .int (nI (q)))]) rfl rfl rfl ?_
                    refine ev_b bX7_rank_107_50 (lv' := [(6, .int (nI (m + 1))), (5, .int (zI (((m : Nat) : Int)))), (0, .ref 0), (1, .int (nI (k))), (2, .int (nI (1))), (3, .int (zI (bfZ S q))), (4, .int (nI (q)))]) (st' := []) (w2 := modW 0 S ((X.rf, wo, ta, ow, 0, X.sh, X.lt, X.ty, X.pl, X.nu, X.od, X.tt, X.oo, X.on, X.wn, X.pd, X.li, X.rr, X.rn, X.dr) : ModN) K) rfl ?_
                    rw [show nI (m + 1) = nI ((m + 1)) from congrArg nI (by omega)]
                    exact ih50 (m + 1) (by omega) _ hnext
      refine ev_pick (lv' := [(6, .int (nI (0))), (5, .int (zI (-9))), (0, .ref 0), (1, .int (nI (k))), (2, .int (nI (1))), (3, .int (zI (bfZ S q))), (4, .int (nI (q)))]) rfl ?_
      exact L50 (1 <<< S.ca) 0 (by omega) (-9) nx_start
  rw [show zI (-9) = zI (bfZ S 0) from congrArg zI (by exact rfl)]
  exact L37 (k + 1) 0 (by omega) 
