/-! ===== envy: the most prices within some items ===== -/
theorem most_spec (K : List Nat) (pr : Nat → Nat) (ca sm : Nat) : ∀ a : Nat, a ≤ K.foldl (fun m k => if andn (bidsN k) sm = 0 then max m (prTo pr (bidsN k) ca) else m) a ∧ (∀ k ∈ K, andn (bidsN k) sm = 0 → prTo pr (bidsN k) ca ≤ K.foldl (fun m k => if andn (bidsN k) sm = 0 then max m (prTo pr (bidsN k) ca) else m) a) ∧ (K.foldl (fun m k => if andn (bidsN k) sm = 0 then max m (prTo pr (bidsN k) ca) else m) a = a ∨ ∃ k ∈ K, andn (bidsN k) sm = 0 ∧ K.foldl (fun m k => if andn (bidsN k) sm = 0 then max m (prTo pr (bidsN k) ca) else m) a = prTo pr (bidsN k) ca) := by
  induction K with
  | nil => intro a; exact ⟨Nat.le_refl _, (fun k h => by cases h), Or.inl rfl⟩
  | cons x K ih =>
    intro a
    rw [List.foldl_cons]
    obtain ⟨h1, h2, h3⟩ := ih (if andn (bidsN x) sm = 0 then max a (prTo pr (bidsN x) ca) else a)
    have hb : a ≤ (if andn (bidsN x) sm = 0 then max a (prTo pr (bidsN x) ca) else a) ∧ (andn (bidsN x) sm = 0 → prTo pr (bidsN x) ca ≤ (if andn (bidsN x) sm = 0 then max a (prTo pr (bidsN x) ca) else a)) ∧ ((if andn (bidsN x) sm = 0 then max a (prTo pr (bidsN x) ca) else a) = a ∨ (andn (bidsN x) sm = 0 ∧ (if andn (bidsN x) sm = 0 then max a (prTo pr (bidsN x) ca) else a) = prTo pr (bidsN x) ca)) := by
      by_cases hc : andn (bidsN x) sm = 0
      · rw [if_pos hc]
        refine ⟨by omega, fun _ => by omega, ?_⟩
        by_cases hm : a ≤ prTo pr (bidsN x) ca
        · exact Or.inr ⟨hc, by omega⟩
        · exact Or.inl (by omega)
      · rw [if_neg hc]
        exact ⟨Nat.le_refl _, fun z => absurd z hc, Or.inl rfl⟩
    refine ⟨Nat.le_trans hb.1 h1, fun k hk hz => ?_, ?_⟩
    · rcases List.mem_cons.mp hk with rfl | hk
      · exact Nat.le_trans (hb.2.1 hz) h1
      · exact h2 k hk hz
    · rcases h3 with h3 | ⟨k, hk, hz, e⟩
      · rw [h3]
        rcases hb.2.2 with h5 | ⟨h5, h6⟩
        · exact Or.inl h5
        · exact Or.inr ⟨x, List.mem_cons_self, h5, h6⟩
      · exact Or.inr ⟨k, List.mem_cons_of_mem _ hk, hz, e⟩
theorem most_out {S : SaleN} (hS : SaleOK S) (sm : Nat) : (∀ m, outc S m → andn m sm = 0 → prTo S.pr m S.ca ≤ mostLs (keysOf S (packsN S S.ca)) S.pr S.ca sm) ∧ (mostLs (keysOf S (packsN S S.ca)) S.pr S.ca sm = 0 ∨ ∃ m, outc S m ∧ andn m sm = 0 ∧ mostLs (keysOf S (packsN S S.ca)) S.pr S.ca sm = prTo S.pr m S.ca) := by
  obtain ⟨-, h2, h3⟩ := most_spec (keysOf S (packsN S S.ca)) S.pr S.ca sm 0
  have hb : ∀ m, outc S m → bidsN (keyS S m) = m := fun m hm => key_bids (outc_lt hS hm)
  constructor
  · intro m hm hz
    have := h2 (keyS S m) (mem_keys.mpr ⟨m, hm, rfl⟩) (by rw [hb m hm]; exact hz)
    rw [hb m hm] at this
    exact this
  · rcases h3 with h3 | ⟨k, hk, hz, e⟩
    · exact Or.inl h3
    · obtain ⟨m, hm, rfl⟩ := mem_keys.mp hk
      rw [hb m hm] at hz e
      exact Or.inr ⟨m, hm, hz, e⟩
theorem it_andn {st : Nat → Nat} {m y : Nat} : ∀ n, andn (itTo st m n) y = 0 ↔ ∀ j, j < n → m.testBit j = true → andn (st j) y = 0
  | 0 => ⟨fun _ j hj => absurd hj (Nat.not_lt_zero j), fun _ => andn_zero y⟩
  | n + 1 => by
    rw [itTo_s]
    have ih := it_andn (st := st) (m := m) (y := y) n
    have hor : ∀ a b : Nat, andn (a ||| b) y = 0 ↔ andn a y = 0 ∧ andn b y = 0 := fun a b => by
      rw [andn_0, andn_0, andn_0]
      constructor
      · exact fun h => ⟨fun i hi => h i (by rw [Nat.testBit_or, hi]; rfl), fun i hi => h i (by rw [Nat.testBit_or, hi, Bool.or_true])⟩
      · rintro ⟨h1, h2⟩ i hi
        rw [Nat.testBit_or, Bool.or_eq_true] at hi
        exact hi.elim (h1 i) (h2 i)
    constructor
    · intro h j hj hb
      by_cases e : j = n
      · subst e
        rw [if_pos hb, hor] at h
        exact h.2
      · refine ih.mp ?_ j (by omega) hb
        split at h
        · exact ((hor _ _).mp h).1
        · exact h
    · intro h
      have h1 := ih.mpr (fun j hj hb => h j (by omega) hb)
      split
      · rename_i hb
        exact (hor _ _).mpr ⟨h1, h n (by omega) hb⟩
      · exact h1
theorem andn_63 {x y : Nat} (hx : x < 64) : andn x y = 0 ↔ x &&& andn 63 y = 0 := by
  have h63 : ∀ i, x.testBit i = true → Nat.testBit 63 i = true := fun i hi => by
    by_cases h : i < 6
    · have : ∀ i, i < 6 → Nat.testBit 63 i = true := by decide
      exact this i h
    · rw [tb_lt (b := 6) hx (by omega)] at hi
      cases hi
  rw [andn_0]
  constructor
  · intro h
    apply Nat.eq_of_testBit_eq
    intro i
    rw [Nat.testBit_and, Nat.zero_testBit, andn_bit]
    cases hi : x.testBit i with
    | false => rfl
    | true => rw [h i hi, h63 i hi]; rfl
  · intro h i hi
    have h1 : (x &&& andn 63 y).testBit i = false := by rw [h]; exact Nat.zero_testBit i
    rw [Nat.testBit_and, andn_bit, hi, h63 i hi] at h1
    cases hy : y.testBit i with
    | true => rfl
    | false => rw [hy] at h1; cases h1
/-- a set of own bids lies within some items -/
theorem env_iff {S : SaleN} (hS : SaleOK S) {m own W : Nat} (ho : outc S m) : (andn m (own &&& S.ac) = 0 ∧ andn (itTo S.st m S.ca) W = 0) ↔ andn m (andn own (hdTo S.st (andn 63 W) S.ca &&& S.ac)) = 0 := by
  have hac := andn_0.mp (out_sub ho)
  have hlt := packsN_lt S S.ca m ho.1
  rw [it_andn, andn_0, andn_0]
  constructor
  · rintro ⟨h1, h2⟩ j hj
    have hjc : j < S.ca := by
      by_cases hc : j < S.ca
      · exact hc
      · rw [tb_lt hlt (by omega)] at hj; cases hj
    have h3 := h1 j hj
    rw [Nat.testBit_and, Bool.and_eq_true] at h3
    have h4 := (andn_63 (hS.2.2.1 j hjc).2.2.1).mp (h2 j hjc hj)
    rw [andn_bit, h3.1, Nat.testBit_and]
    cases hh : (hdTo S.st (andn 63 W) S.ca).testBit j with
    | false => rfl
    | true => exact absurd h4 ((hd_bit S.ca j).mp hh).2
  · intro h
    refine ⟨fun j hj => ?_, fun j hjc hj => ?_⟩
    · have h1 := h j hj
      rw [andn_bit, Bool.and_eq_true] at h1
      rw [Nat.testBit_and, h1.1, hac j hj]
      rfl
    · have h1 := h j hj
      rw [andn_bit, Bool.and_eq_true, Nat.testBit_and, hac j hj, Bool.and_true] at h1
      refine (andn_63 (hS.2.2.1 j hjc).2.2.1).mpr ?_
      by_cases hz : S.st j &&& andn 63 W = 0
      · exact hz
      · have h2 := (hd_bit (st := S.st) (items := andn 63 W) S.ca j).mpr ⟨hjc, hz⟩
        rw [h2] at h1
        cases h1.2
def EnvI (S : SaleN) (sm k u : Nat) : Prop := (∀ m, m < k → outc S m → andn m sm = 0 → prTo S.pr m S.ca ≤ u) ∧ (u = 0 ∨ ∃ m, outc S m ∧ andn m sm = 0 ∧ u = prTo S.pr m S.ca)
theorem env_start {S : SaleN} {sm : Nat} : EnvI S sm 0 0 := ⟨fun m h => absurd h (Nat.not_lt_zero m), Or.inl rfl⟩
theorem env_skip {S : SaleN} {sm k u : Nat} (h : EnvI S sm k u) (hn : ¬ (outc S k ∧ andn k sm = 0)) : EnvI S sm (k + 1) u := by
  refine ⟨fun m hm ho hz => ?_, h.2⟩
  by_cases e : m = k
  · subst e; exact absurd ⟨ho, hz⟩ hn
  · exact h.1 m (by omega) ho hz
theorem env_take {S : SaleN} {sm k u : Nat} (h : EnvI S sm k u) (ho : outc S k) (hz : andn k sm = 0) : EnvI S sm (k + 1) (max u (prTo S.pr k S.ca)) := by
  refine ⟨fun m hm ho2 hz2 => ?_, ?_⟩
  · by_cases e : m = k
    · subst e; omega
    · have := h.1 m (by omega) ho2 hz2
      omega
  · by_cases hm : u ≤ prTo S.pr k S.ca
    · exact Or.inr ⟨k, ho, hz, by omega⟩
    · rw [show max u (prTo S.pr k S.ca) = u by omega]
      exact h.2
theorem env_end {S : SaleN} (hS : SaleOK S) {sm u : Nat} (h : EnvI S sm (1 <<< S.ca) u) : u = mostLs (keysOf S (packsN S S.ca)) S.pr S.ca sm := by
  obtain ⟨h1, h2⟩ := most_out hS sm
  apply Nat.le_antisymm
  · rcases h.2 with h3 | ⟨m, ho, hz, e⟩
    · rw [h3]; exact Nat.zero_le _
    · rw [e]; exact h1 m ho hz
  · rcases h2 with h3 | ⟨m, ho, hz, e⟩
    · rw [h3]; exact Nat.zero_le _
    · rw [e]; exact h.1 m (out_shl ho) ho hz
theorem dsj_sub {st : Nat → Nat} {m x n : Nat} (h : dsj st m n = true) : dsj st (m &&& x) n = true := by
  rw [dsj_iff] at h ⊢
  intro i j hij hj hi hbj
  rw [Nat.testBit_and, Bool.and_eq_true] at hi hbj
  exact h i j hij hj hi.1 hbj.1

theorem bX7_envy_0_3 {l : Launch} {E : XE} : Snd l E mX7_envy 0 3 (xs [x_iload 1, x_push (.int (nI 0)), x_push (.int (nI 4))]) := Snd.cons (snd_iload_n (i := 1) dX7_envy_0 rfl) (Snd.cons (snd_iconst (v := nI 0) dX7_envy_1 (by decide)) (Snd.cons (snd_iconst (v := nI 4) dX7_envy_2 (by decide)) Snd.nil))
theorem bX7_envy_23_25 {l : Launch} {E : XE} : Snd l E mX7_envy 23 25 (xs [x_aload 0, x_push (.int (-1))]) := Snd.cons (snd_aload_n (i := 0) dX7_envy_23 rfl) (Snd.cons (snd_iconst (v := -1) dX7_envy_24 (by decide)) Snd.nil)
set_option maxHeartbeats 4000000 in
set_option maxRecDepth 100000 in
theorem q_envy_1a {l : Launch} {E : XE} (S : SaleN) (X : ModN) (K : Option (Nat → Nat)) (z1 z2 : Int) (hS : SaleOK S) (hM : MOK S X) (rz1 : -2147483648 ≤ z1 ∧ z1 < 2147483648) (rz2 : -2147483648 ≤ z2 ∧ z2 < 2147483648) (h : ¬ (0 ≤ z1 ∧ z1 < 5)) : MetE l E mX7_envy (1) 0 0 [.ref 0, .int (zI (z1)), .int (zI (z2))] (modW 0 S X K) (MP S K (X.lt) (X.ty) (X.rr) (X.rn) ((up X.rf 1 (X.rf 1 + 1))) (some (.int (-1)))) := by
  refine MetE.of (by decide +kernel) (Nat.le_of_ble_eq_true rfl) ?_
  have hca := hS.1
  have hpw := pow_ca hS
  have hac := ac_lt hS
  have hshl := shl_le hS
  
  refine ev_eq (lv' := [(0, .ref 0), (1, .int (zI (z1))), (2, .int (zI (z2)))]) (st' := []) (w' := modW 0 S X K) rfl rfl rfl ?_
  refine ev_b bX7_envy_0_3 (lv' := [(0, .ref 0), (1, .int (zI (z1))), (2, .int (zI (z2)))]) (st' := [.int (nI (4)), .int (nI (0)), .int (zI (z1))]) (w2 := modW 0 S X K) rfl ?_
  refine ev_callS (Yc := mX7_isIn) [] dX7_envy_3 tw_1036 kX7_isIn (m_X7_isIn_z z1 0 4 rz1 (by decide) (by decide)) rfl (st := []) rfl (by decide) rfl (by decide) (Nat.le_of_ble_eq_true rfl) (Nat.le_refl _) (Nat.le_refl _) (fun r w' h => by obtain ⟨-, rfl⟩ := h; exact Nat.le_of_ble_eq_true rfl) ?_
  rintro _ _ ⟨rfl, rfl⟩
  refine ev_eq (lv' := [(0, .ref 0), (1, .int (zI (z1))), (2, .int (zI (z2)))]) (st' := [.int (nI (b01 (((0 : Nat) : Int) ≤ z1 ∧ z1 ≤ ((4 : Nat) : Int))))]) (w' := modW 0 S X K) rfl rfl rfl ?_
  refine ev_ifeq_b (tgt := 23) dX7_envy_6 (by decide) (fun h6 => ?_) (fun h6 => (by exfalso; omega))
  refine ev_b bX7_envy_23_25 (lv' := [(0, .ref 0), (1, .int (zI (z1))), (2, .int (zI (z2)))]) (st' := [.int (-1), .ref 0]) (w2 := modW 0 S X K) rfl ?_
  refine ev_callM (Yc := mX7_refuses) (st := []) dX7_envy_25 tw_1012 kX7_refuses (m_X7_refuses_1 S X K) rfl rfl rfl rfl (by decide) (Nat.le_of_ble_eq_true rfl) (Nat.le_refl _) (Nat.le_refl _) (fun r w' h => by obtain ⟨-, rfl⟩ := h; exact mod_eq) ?_
  rintro _ _ ⟨rfl, rfl⟩
  refine ev_eq (lv' := [(0, .ref 0), (1, .int (zI (z1))), (2, .int (zI (z2)))]) (st' := [.int (-1)]) (w' := modW 0 S (((up X.rf 1 (X.rf 1 + 1)), X.wo, X.ta, X.ow, X.sl, X.sh, X.lt, X.ty, X.pl, X.nu, X.od, X.tt, X.oo, X.on, X.wn, X.pd, X.li, X.rr, X.rn, X.dr) : ModN) K) rfl rfl rfl ?_
  exact ev_iret dX7_envy_28 rfl mod_le (Nat.le_refl _) (Nat.le_refl _) ⟨rfl, _, rfl, hM, rfl, rfl, rfl, rfl, rfl⟩
theorem bX7_envy_9_12 {l : Launch} {E : XE} : Snd l E mX7_envy 9 12 (xs [x_iload 2, x_push (.int (nI 0)), x_push (.int (nI 4))]) := Snd.cons (snd_iload_n (i := 2) dX7_envy_9 rfl) (Snd.cons (snd_iconst (v := nI 0) dX7_envy_10 (by decide)) (Snd.cons (snd_iconst (v := nI 4) dX7_envy_11 (by decide)) Snd.nil))
set_option maxHeartbeats 4000000 in
set_option maxRecDepth 100000 in
theorem q_envy_1b {l : Launch} {E : XE} (S : SaleN) (X : ModN) (K : Option (Nat → Nat)) (z1 z2 : Int) (hS : SaleOK S) (hM : MOK S X) (rz1 : -2147483648 ≤ z1 ∧ z1 < 2147483648) (rz2 : -2147483648 ≤ z2 ∧ z2 < 2147483648) (h : 0 ≤ z1 ∧ z1 < 5) (h2 : ¬ (0 ≤ z2 ∧ z2 < 5)) : MetE l E mX7_envy (1) 0 0 [.ref 0, .int (zI (z1)), .int (zI (z2))] (modW 0 S X K) (MP S K (X.lt) (X.ty) (X.rr) (X.rn) ((up X.rf 1 (X.rf 1 + 1))) (some (.int (-1)))) := by
  refine MetE.of (by decide +kernel) (Nat.le_of_ble_eq_true rfl) ?_
  have hca := hS.1
  have hpw := pow_ca hS
  have hac := ac_lt hS
  have hshl := shl_le hS
  
  refine ev_eq (lv' := [(0, .ref 0), (1, .int (zI (z1))), (2, .int (zI (z2)))]) (st' := []) (w' := modW 0 S X K) rfl rfl rfl ?_
  refine ev_b bX7_envy_0_3 (lv' := [(0, .ref 0), (1, .int (zI (z1))), (2, .int (zI (z2)))]) (st' := [.int (nI (4)), .int (nI (0)), .int (zI (z1))]) (w2 := modW 0 S X K) rfl ?_
  refine ev_callS (Yc := mX7_isIn) [] dX7_envy_3 tw_1036 kX7_isIn (m_X7_isIn_z z1 0 4 rz1 (by decide) (by decide)) rfl (st := []) rfl (by decide) rfl (by decide) (Nat.le_of_ble_eq_true rfl) (Nat.le_refl _) (Nat.le_refl _) (fun r w' h => by obtain ⟨-, rfl⟩ := h; exact Nat.le_of_ble_eq_true rfl) ?_
  rintro _ _ ⟨rfl, rfl⟩
  refine ev_eq (lv' := [(0, .ref 0), (1, .int (zI (z1))), (2, .int (zI (z2)))]) (st' := [.int (nI (b01 (((0 : Nat) : Int) ≤ z1 ∧ z1 ≤ ((4 : Nat) : Int))))]) (w' := modW 0 S X K) rfl rfl rfl ?_
  refine ev_ifeq_b (tgt := 23) dX7_envy_6 (by decide) (fun h6 => (by exfalso; omega)) (fun h6 => ?_)
  refine ev_b bX7_envy_9_12 (lv' := [(0, .ref 0), (1, .int (zI (z1))), (2, .int (zI (z2)))]) (st' := [.int (nI (4)), .int (nI (0)), .int (zI (z2))]) (w2 := modW 0 S X K) rfl ?_
  refine ev_callS (Yc := mX7_isIn) [] dX7_envy_12 tw_1036 kX7_isIn (m_X7_isIn_z z2 0 4 rz2 (by decide) (by decide)) rfl (st := []) rfl (by decide) rfl (by decide) (Nat.le_of_ble_eq_true rfl) (Nat.le_refl _) (Nat.le_refl _) (fun r w' h => by obtain ⟨-, rfl⟩ := h; exact Nat.le_of_ble_eq_true rfl) ?_
  rintro _ _ ⟨rfl, rfl⟩
  refine ev_eq (lv' := [(0, .ref 0), (1, .int (zI (z1))), (2, .int (zI (z2)))]) (st' := [.int (nI (b01 (((0 : Nat) : Int) ≤ z2 ∧ z2 ≤ ((4 : Nat) : Int))))]) (w' := modW 0 S X K) rfl rfl rfl ?_
  refine ev_ifeq_b (tgt := 23) dX7_envy_15 (by decide) (fun h15 => ?_) (fun h15 => (by exfalso; omega))
  refine ev_b bX7_envy_23_25 (lv' := [(0, .ref 0), (1, .int (zI (z1))), (2, .int (zI (z2)))]) (st' := [.int (-1), .ref 0]) (w2 := modW 0 S X K) rfl ?_
  refine ev_callM (Yc := mX7_refuses) (st := []) dX7_envy_25 tw_1012 kX7_refuses (m_X7_refuses_1 S X K) rfl rfl rfl rfl (by decide) (Nat.le_of_ble_eq_true rfl) (Nat.le_refl _) (Nat.le_refl _) (fun r w' h => by obtain ⟨-, rfl⟩ := h; exact mod_eq) ?_
  rintro _ _ ⟨rfl, rfl⟩
  refine ev_eq (lv' := [(0, .ref 0), (1, .int (zI (z1))), (2, .int (zI (z2)))]) (st' := [.int (-1)]) (w' := modW 0 S (((up X.rf 1 (X.rf 1 + 1)), X.wo, X.ta, X.ow, X.sl, X.sh, X.lt, X.ty, X.pl, X.nu, X.od, X.tt, X.oo, X.on, X.wn, X.pd, X.li, X.rr, X.rn, X.dr) : ModN) K) rfl rfl rfl ?_
  exact ev_iret dX7_envy_28 rfl mod_le (Nat.le_refl _) (Nat.le_refl _) ⟨rfl, _, rfl, hM, rfl, rfl, rfl, rfl, rfl⟩
theorem bX7_envy_18_20 {l : Launch} {E : XE} : Snd l E mX7_envy 18 20 (xs [x_iload 1, x_iload 2]) := Snd.cons (snd_iload_n (i := 1) dX7_envy_18 rfl) (Snd.cons (snd_iload_n (i := 2) dX7_envy_19 rfl) Snd.nil)
set_option maxHeartbeats 4000000 in
set_option maxRecDepth 100000 in
theorem q_envy_1c {l : Launch} {E : XE} (S : SaleN) (X : ModN) (K : Option (Nat → Nat)) (b : Nat) (hS : SaleOK S) (hM : MOK S X) (hb : b < 5) : MetE l E mX7_envy (1) 0 0 [.ref 0, .int (nI (b)), .int (nI (b))] (modW 0 S X K) (MP S K (X.lt) (X.ty) (X.rr) (X.rn) ((up X.rf 1 (X.rf 1 + 1))) (some (.int (-1)))) := by
  refine MetE.of (by decide +kernel) (Nat.le_of_ble_eq_true rfl) ?_
  have hca := hS.1
  have hpw := pow_ca hS
  have hac := ac_lt hS
  have hshl := shl_le hS
  
  refine ev_eq (lv' := [(0, .ref 0), (1, .int (nI (b))), (2, .int (nI (b)))]) (st' := []) (w' := modW 0 S X K) rfl rfl rfl ?_
  refine ev_b bX7_envy_0_3 (lv' := [(0, .ref 0), (1, .int (nI (b))), (2, .int (nI (b)))]) (st' := [.int (nI (4)), .int (nI (0)), .int (nI (b))]) (w2 := modW 0 S X K) rfl ?_
  refine ev_callS (Yc := mX7_isIn) [] dX7_envy_3 tw_1036 kX7_isIn (m_X7_isIn_n b 0 4 (by omega) (by decide) (by decide)) rfl (st := []) rfl (by decide) rfl (by decide) (Nat.le_of_ble_eq_true rfl) (Nat.le_refl _) (Nat.le_refl _) (fun r w' h => by obtain ⟨-, rfl⟩ := h; exact Nat.le_of_ble_eq_true rfl) ?_
  rintro _ _ ⟨rfl, rfl⟩
  refine ev_eq (lv' := [(0, .ref 0), (1, .int (nI (b))), (2, .int (nI (b)))]) (st' := [.int (nI (b01 (0 ≤ b ∧ b ≤ 4)))]) (w' := modW 0 S X K) rfl rfl rfl ?_
  refine ev_ifeq_b (tgt := 23) dX7_envy_6 (by decide) (fun h6 => (by exfalso; omega)) (fun h6 => ?_)
  refine ev_b bX7_envy_9_12 (lv' := [(0, .ref 0), (1, .int (nI (b))), (2, .int (nI (b)))]) (st' := [.int (nI (4)), .int (nI (0)), .int (nI (b))]) (w2 := modW 0 S X K) rfl ?_
  refine ev_callS (Yc := mX7_isIn) [] dX7_envy_12 tw_1036 kX7_isIn (m_X7_isIn_n b 0 4 (by omega) (by decide) (by decide)) rfl (st := []) rfl (by decide) rfl (by decide) (Nat.le_of_ble_eq_true rfl) (Nat.le_refl _) (Nat.le_refl _) (fun r w' h => by obtain ⟨-, rfl⟩ := h; exact Nat.le_of_ble_eq_true rfl) ?_
  rintro _ _ ⟨rfl, rfl⟩
  refine ev_eq (lv' := [(0, .ref 0), (1, .int (nI (b))), (2, .int (nI (b)))]) (st' := [.int (nI (b01 (0 ≤ b ∧ b ≤ 4)))]) (w' := modW 0 S X K) rfl rfl rfl ?_
  refine ev_ifeq_b (tgt := 23) dX7_envy_15 (by decide) (fun h15 => (by exfalso; omega)) (fun h15 => ?_)
  refine ev_b bX7_envy_18_20 (lv' := [(0, .ref 0), (1, .int (nI (b))), (2, .int (nI (b)))]) (st' := [.int (nI (b)), .int (nI (b))]) (w2 := modW 0 S X K) rfl ?_
  refine ev_icmp_ne_n (tgt := 29) (by omega) (by omega) dX7_envy_20 (by decide) (fun h20 => (by exfalso; omega)) (fun h20 => ?_)
  refine ev_b bX7_envy_23_25 (lv' := [(0, .ref 0), (1, .int (nI (b))), (2, .int (nI (b)))]) (st' := [.int (-1), .ref 0]) (w2 := modW 0 S X K) rfl ?_
  refine ev_callM (Yc := mX7_refuses) (st := []) dX7_envy_25 tw_1012 kX7_refuses (m_X7_refuses_1 S X K) rfl rfl rfl rfl (by decide) (Nat.le_of_ble_eq_true rfl) (Nat.le_refl _) (Nat.le_refl _) (fun r w' h => by obtain ⟨-, rfl⟩ := h; exact mod_eq) ?_
  rintro _ _ ⟨rfl, rfl⟩
  refine ev_eq (lv' := [(0, .ref 0), (1, .int (nI (b))), (2, .int (nI (b)))]) (st' := [.int (-1)]) (w' := modW 0 S (((up X.rf 1 (X.rf 1 + 1)), X.wo, X.ta, X.ow, X.sl, X.sh, X.lt, X.ty, X.pl, X.nu, X.od, X.tt, X.oo, X.on, X.wn, X.pd, X.li, X.rr, X.rn, X.dr) : ModN) K) rfl rfl rfl ?_
  exact ev_iret dX7_envy_28 rfl mod_le (Nat.le_refl _) (Nat.le_refl _) ⟨rfl, _, rfl, hM, rfl, rfl, rfl, rfl, rfl⟩
theorem bX7_envy_29_30 {l : Launch} {E : XE} : Snd l E mX7_envy 29 30 (xs [x_aload 0]) := Snd.cons (snd_aload_n (i := 0) dX7_envy_29 rfl) Snd.nil
theorem bX7_envy_33_38 {l : Launch} {E : XE} : Snd l E mX7_envy 33 38 (xs [x_aload 0, x_get 8 10, x_aload 0]) := Snd.cons (snd_aload_n (i := 0) dX7_envy_33 rfl) (Snd.cons (snd_get (ci := 8) (k := 10) dX7_envy_34 rfl inX7 (by decide) tw_924) (Snd.cons (snd_aload_n (i := 0) dX7_envy_37 rfl) Snd.nil))
theorem bX7_envy_41_46 {l : Launch} {E : XE} : Snd l E mX7_envy 41 46 (xs [x_aload 0, x_get 8 11, x_iload 2]) := Snd.cons (snd_aload_n (i := 0) dX7_envy_41 rfl) (Snd.cons (snd_get (ci := 8) (k := 11) dX7_envy_42 rfl inX7 (by decide) tw_925) (Snd.cons (snd_iload_n (i := 2) dX7_envy_45 rfl) Snd.nil))
theorem bX7_envy_49_56 {l : Launch} {E : XE} : Snd l E mX7_envy 49 56 (xs [x_istore 3, x_push (.int (nI 0)), x_istore 4, x_push (.int (nI 0)), x_istore 5]) := Snd.cons (snd_istore_n (i := 3) dX7_envy_49 rfl (by decide)) (Snd.cons (snd_iconst (v := nI 0) dX7_envy_50 (by decide)) (Snd.cons (snd_istore dX7_envy_51 (by decide)) (Snd.cons (snd_iconst (v := nI 0) dX7_envy_53 (by decide)) (Snd.cons (snd_istore dX7_envy_54 (by decide)) Snd.nil))))
theorem bX7_envy_56_63 {l : Launch} {E : XE} : Snd l E mX7_envy 56 63 (xs [x_iload 5, x_push (.int (nI 1)), x_aload 0, x_get 8 6]) := Snd.cons (snd_iload dX7_envy_56) (Snd.cons (snd_iconst (v := nI 1) dX7_envy_58 (by decide)) (Snd.cons (snd_aload_n (i := 0) dX7_envy_59 rfl) (Snd.cons (snd_get (ci := 8) (k := 6) dX7_envy_60 rfl inX7 (by decide) tw_920) Snd.nil)))
theorem bX7_envy_129_137 {l : Launch} {E : XE} : Snd l E mX7_envy 129 137 (xs [x_push (.int (nI 0)), x_iload 4, x_aload 0, x_get 8 25, x_iload 2]) := Snd.cons (snd_iconst (v := nI 0) dX7_envy_129 (by decide)) (Snd.cons (snd_iload dX7_envy_130) (Snd.cons (snd_aload_n (i := 0) dX7_envy_132 rfl) (Snd.cons (snd_get (ci := 8) (k := 25) dX7_envy_133 rfl inX7 (by decide) tw_939) (Snd.cons (snd_iload_n (i := 2) dX7_envy_136 rfl) Snd.nil))))
theorem bX7_envy_139_144 {l : Launch} {E : XE} : Snd l E mX7_envy 139 144 (xs [x_aload 0, x_get 8 24, x_iload 1]) := Snd.cons (snd_aload_n (i := 0) dX7_envy_139 rfl) (Snd.cons (snd_get (ci := 8) (k := 24) dX7_envy_140 rfl inX7 (by decide) tw_938) (Snd.cons (snd_iload_n (i := 1) dX7_envy_143 rfl) Snd.nil))
theorem bX7_envy_145_150 {l : Launch} {E : XE} : Snd l E mX7_envy 145 150 (xs [x_aload 0, x_get 8 25, x_iload 1]) := Snd.cons (snd_aload_n (i := 0) dX7_envy_145 rfl) (Snd.cons (snd_get (ci := 8) (k := 25) dX7_envy_146 rfl inX7 (by decide) tw_939) (Snd.cons (snd_iload_n (i := 1) dX7_envy_149 rfl) Snd.nil))
theorem bX7_envy_67_74 {l : Launch} {E : XE} : Snd l E mX7_envy 67 74 (xs [x_iload 5, x_aload 0, x_get 8 11, x_iload 1]) := Snd.cons (snd_iload dX7_envy_67) (Snd.cons (snd_aload_n (i := 0) dX7_envy_69 rfl) (Snd.cons (snd_get (ci := 8) (k := 11) dX7_envy_70 rfl inX7 (by decide) tw_925) (Snd.cons (snd_iload_n (i := 1) dX7_envy_73 rfl) Snd.nil)))
theorem bX7_envy_75_79 {l : Launch} {E : XE} : Snd l E mX7_envy 75 79 (xs [x_aload 0, x_get 8 7]) := Snd.cons (snd_aload_n (i := 0) dX7_envy_75 rfl) (Snd.cons (snd_get (ci := 8) (k := 7) dX7_envy_76 rfl inX7 (by decide) tw_921) Snd.nil)
theorem bX7_envy_80_82 {l : Launch} {E : XE} : Snd l E mX7_envy 80 82 (xs [x_push (.int (-1)), x_i2 (fun x y => x ^^^ y)]) := Snd.cons (snd_iconst (v := -1) dX7_envy_80 (by decide)) (Snd.cons (snd_ixor dX7_envy_81) Snd.nil)
theorem bX7_envy_126_56 {l : Launch} {E : XE} : Snd l E mX7_envy 126 56 (xs [x_id]) := Snd.cons (snd_goto (tgt := 56) dX7_envy_126 (by decide)) Snd.nil
theorem bX7_envy_86_92 {l : Launch} {E : XE} : Snd l E mX7_envy 86 92 (xs [x_aload 0, x_get 8 9, x_iload 5]) := Snd.cons (snd_aload_n (i := 0) dX7_envy_86 rfl) (Snd.cons (snd_get (ci := 8) (k := 9) dX7_envy_87 rfl inX7 (by decide) tw_923) (Snd.cons (snd_iload dX7_envy_90) Snd.nil))
theorem bX7_envy_96_102 {l : Launch} {E : XE} : Snd l E mX7_envy 96 102 (xs [x_aload 0, x_get 8 10, x_iload 5]) := Snd.cons (snd_aload_n (i := 0) dX7_envy_96 rfl) (Snd.cons (snd_get (ci := 8) (k := 10) dX7_envy_97 rfl inX7 (by decide) tw_924) (Snd.cons (snd_iload dX7_envy_100) Snd.nil))
theorem bX7_envy_103_106 {l : Launch} {E : XE} : Snd l E mX7_envy 103 106 (xs [x_iload 3, x_push (.int (-1)), x_i2 (fun x y => x ^^^ y)]) := Snd.cons (snd_iload_n (i := 3) dX7_envy_103 rfl) (Snd.cons (snd_iconst (v := -1) dX7_envy_104 (by decide)) (Snd.cons (snd_ixor dX7_envy_105) Snd.nil))
theorem bX7_envy_110_115 {l : Launch} {E : XE} : Snd l E mX7_envy 110 115 (xs [x_iload 4, x_aload 0, x_iload 5]) := Snd.cons (snd_iload dX7_envy_110) (Snd.cons (snd_aload_n (i := 0) dX7_envy_112 rfl) (Snd.cons (snd_iload dX7_envy_113) Snd.nil))
theorem bX7_envy_121_123 {l : Launch} {E : XE} : Snd l E mX7_envy 121 123 (xs [x_istore 4]) := Snd.cons (snd_istore dX7_envy_121 (by decide)) Snd.nil
set_option maxHeartbeats 4000000 in
set_option maxRecDepth 100000 in
theorem q_envy_ok {l : Launch} {E : XE} (S : SaleN) (X : ModN) (K : Option (Nat → Nat)) (b c : Nat) (hS : SaleOK S) (hM : MOK S X) (hb : b < 5) (hc : c < 5) (hne : b ≠ c) : MetE l E mX7_envy (7) 0 0 [.ref 0, .int (nI (b)), .int (nI (c))] (modW 0 S X K) (MP S K (X.lt) (X.ty) (X.rr) (X.rn) (X.rf) (some (.int (zI (max 0 ((((mostLs (keysOf S (packsN S S.ca)) S.pr S.ca (andn (bgTo S.ow (1 <<< b) 5) (hdTo S.st (andn 63 (itTo S.st (winB S 1023 &&& bgTo S.ow (1 <<< c) 5) S.ca)) S.ca &&& S.ac)) : Nat) : Int) - paidZ S c) - (wonZ S b - paidZ S b))))))) := by
  refine MetE.of (by decide +kernel) (Nat.le_of_ble_eq_true rfl) ?_
  have hca := hS.1
  have hpw := pow_ca hS
  have hac := ac_lt hS
  have hshl := shl_le hS
  
  refine ev_eq (lv' := [(0, .ref 0), (1, .int (nI (b))), (2, .int (nI (c)))]) (st' := []) (w' := modW 0 S X K) rfl rfl rfl ?_
  refine ev_b bX7_envy_0_3 (lv' := [(0, .ref 0), (1, .int (nI (b))), (2, .int (nI (c)))]) (st' := [.int (nI (4)), .int (nI (0)), .int (nI (b))]) (w2 := modW 0 S X K) rfl ?_
  refine ev_callS (Yc := mX7_isIn) [] dX7_envy_3 tw_1036 kX7_isIn (m_X7_isIn_n b 0 4 (by omega) (by decide) (by decide)) rfl (st := []) rfl (by decide) rfl (by decide) (Nat.le_of_ble_eq_true rfl) (Nat.le_refl _) (Nat.le_refl _) (fun r w' h => by obtain ⟨-, rfl⟩ := h; exact Nat.le_of_ble_eq_true rfl) ?_
  rintro _ _ ⟨rfl, rfl⟩
  refine ev_eq (lv' := [(0, .ref 0), (1, .int (nI (b))), (2, .int (nI (c)))]) (st' := [.int (nI (b01 (0 ≤ b ∧ b ≤ 4)))]) (w' := modW 0 S X K) rfl rfl rfl ?_
  refine ev_ifeq_b (tgt := 23) dX7_envy_6 (by decide) (fun h6 => (by exfalso; omega)) (fun h6 => ?_)
  refine ev_b bX7_envy_9_12 (lv' := [(0, .ref 0), (1, .int (nI (b))), (2, .int (nI (c)))]) (st' := [.int (nI (4)), .int (nI (0)), .int (nI (c))]) (w2 := modW 0 S X K) rfl ?_
  refine ev_callS (Yc := mX7_isIn) [] dX7_envy_12 tw_1036 kX7_isIn (m_X7_isIn_n c 0 4 (by omega) (by decide) (by decide)) rfl (st := []) rfl (by decide) rfl (by decide) (Nat.le_of_ble_eq_true rfl) (Nat.le_refl _) (Nat.le_refl _) (fun r w' h => by obtain ⟨-, rfl⟩ := h; exact Nat.le_of_ble_eq_true rfl) ?_
  rintro _ _ ⟨rfl, rfl⟩
  refine ev_eq (lv' := [(0, .ref 0), (1, .int (nI (b))), (2, .int (nI (c)))]) (st' := [.int (nI (b01 (0 ≤ c ∧ c ≤ 4)))]) (w' := modW 0 S X K) rfl rfl rfl ?_
  refine ev_ifeq_b (tgt := 23) dX7_envy_15 (by decide) (fun h15 => (by exfalso; omega)) (fun h15 => ?_)
  refine ev_b bX7_envy_18_20 (lv' := [(0, .ref 0), (1, .int (nI (b))), (2, .int (nI (c)))]) (st' := [.int (nI (c)), .int (nI (b))]) (w2 := modW 0 S X K) rfl ?_
  refine ev_icmp_ne_n (tgt := 29) (by omega) (by omega) dX7_envy_20 (by decide) (fun h20 => ?_) (fun h20 => (by exfalso; omega))
  refine ev_b bX7_envy_29_30 (lv' := [(0, .ref 0), (1, .int (nI (b))), (2, .int (nI (c)))]) (st' := [.ref 0]) (w2 := modW 0 S X K) rfl ?_
  refine ev_callM (Yc := mX7_findHarm) (st := []) dX7_envy_30 tw_1224 kX7_findHarm (m_X7_findHarm S X K hS hM) rfl rfl rfl rfl (by decide) (Nat.le_of_ble_eq_true rfl) (Nat.le_refl _) (Nat.le_refl _) (fun r w' h => by obtain ⟨-, wo, ta, rfl, -⟩ := h; exact mod_eq) ?_
  rintro _ _ ⟨rfl, wo, ta, rfl, hT⟩
  refine ev_eq (lv' := [(0, .ref 0), (1, .int (nI (b))), (2, .int (nI (c)))]) (st' := []) (w' := modW 0 S ((X.rf, wo, ta, (owF S), 0, X.sh, X.lt, X.ty, X.pl, X.nu, X.od, X.tt, X.oo, X.on, (wonZ S), (paidZ S), X.li, X.rr, X.rn, X.dr) : ModN) K) rfl rfl rfl ?_
  refine ev_b bX7_envy_33_38 (lv' := [(0, .ref 0), (1, .int (nI (b))), (2, .int (nI (c)))]) (st' := [.ref 0, .ref 9]) (w2 := modW 0 S ((X.rf, wo, ta, (owF S), 0, X.sh, X.lt, X.ty, X.pl, X.nu, X.od, X.tt, X.oo, X.on, (wonZ S), (paidZ S), X.li, X.rr, X.rn, X.dr) : ModN) K) rfl ?_
  refine ev_callM (Yc := mX7_winnersNow) (st := [.ref 9]) dX7_envy_38 tw_1104 kX7_winnersNow (m_X7_winnersNow_t S S.kd S.fg ((X.rf, wo, ta, (owF S), 0, X.sh, X.lt, X.ty, X.pl, X.nu, X.od, X.tt, X.oo, X.on, (wonZ S), (paidZ S), X.li, X.rr, X.rn, X.dr) : ModN) K hS rfl hT) rfl rfl rfl rfl (by decide) (Nat.le_of_ble_eq_true rfl) (Nat.le_refl _) (Nat.le_refl _) (fun r w' h => by obtain ⟨-, rfl⟩ := h; exact mod_eq) ?_
  rintro _ _ ⟨rfl, rfl⟩
  refine ev_eq (lv' := [(0, .ref 0), (1, .int (nI (b))), (2, .int (nI (c)))]) (st' := [.int (nI (winB S 1023)), .ref 9]) (w' := modW 0 S ((X.rf, wo, ta, (owF S), 0, X.sh, X.lt, X.ty, X.pl, X.nu, X.od, X.tt, X.oo, X.on, (wonZ S), (paidZ S), X.li, X.rr, X.rn, X.dr) : ModN) K) rfl rfl rfl ?_
  have hwb := winB_lt hS 1023
  have hwca : winB S 1023 &&& bgTo S.ow (1 <<< c) 5 < 1024 := Nat.lt_of_le_of_lt Nat.and_le_left hwb
  have hitw : (itTo S.st (winB S 1023 &&& bgTo S.ow (1 <<< c) 5) S.ca) < 64 := itTo_lt S.ca (Nat.le_refl _) (fun k hk => (hS.2.2.1 k hk).2.2.1)
  refine ev_b bX7_envy_41_46 (lv' := [(0, .ref 0), (1, .int (nI (b))), (2, .int (nI (c)))]) (st' := [.int (nI (c)), .ref 10, .int (nI (winB S 1023)), .ref 9]) (w2 := modW 0 S ((X.rf, wo, ta, (owF S), 0, X.sh, X.lt, X.ty, X.pl, X.nu, X.od, X.tt, X.oo, X.on, (wonZ S), (paidZ S), X.li, X.rr, X.rn, X.dr) : ModN) K) rfl ?_
  refine ev_iald_n (f := (owF S)) dX7_envy_46 rfl (by omega) (by decide) ?_
  refine ev_top (y := (nI (bgTo S.ow (1 <<< c) 5))) (congrArg nI (show ((owF S)) c = bgTo S.ow (1 <<< c) 5 from by exact ow_one hS hc)) ?_
  refine ev_iand_n dX7_envy_47 ?_
  refine ev_iald_z (f := ta) dX7_envy_48 rfl (by omega) (by decide) ?_
  refine ev_top (y := (nI ((itTo S.st (winB S 1023 &&& bgTo S.ow (1 <<< c) 5) S.ca)))) (by rw [show ta ((winB S 1023) &&& (bgTo S.ow (1 <<< c) 5)) = (((itTo S.st (winB S 1023 &&& bgTo S.ow (1 <<< c) 5) S.ca) : Nat) : Int) from by rw [(hT _ (Nat.lt_of_le_of_lt Nat.and_le_left (out_shl (win_spec hS 1023).1))).2]; exact if_pos (dsj_sub (out_dsj (win_spec hS 1023).1))]; exact zI_nat _) ?_
  refine ev_b bX7_envy_49_56 (lv' := [(5, .int (nI (0))), (4, .int (nI (0))), (3, .int (nI ((itTo S.st (winB S 1023 &&& bgTo S.ow (1 <<< c) 5) S.ca)))), (0, .ref 0), (1, .int (nI (b))), (2, .int (nI (c)))]) (st' := []) (w2 := modW 0 S ((X.rf, wo, ta, (owF S), 0, X.sh, X.lt, X.ty, X.pl, X.nu, X.od, X.tt, X.oo, X.on, (wonZ S), (paidZ S), X.li, X.rr, X.rn, X.dr) : ModN) K) rfl ?_
  have L56 : ∀ (j_ k : Nat), k + j_ = 1 <<< S.ca → ∀ (u : Nat), (EnvI S (andn (bgTo S.ow (1 <<< b) 5) (hdTo S.st (andn 63 (itTo S.st (winB S 1023 &&& bgTo S.ow (1 <<< c) 5) S.ca)) S.ca &&& S.ac)) k u ∧ u ≤ 990) → Ev l E mX7_envy (7) 0 0 (modW 0 S X K) (MP S K (X.lt) (X.ty) (X.rr) (X.rn) (X.rf) (some (.int (zI (max 0 ((((mostLs (keysOf S (packsN S S.ca)) S.pr S.ca (andn (bgTo S.ow (1 <<< b) 5) (hdTo S.st (andn 63 (itTo S.st (winB S 1023 &&& bgTo S.ow (1 <<< c) 5) S.ca)) S.ca &&& S.ac)) : Nat) : Int) - paidZ S c) - (wonZ S b - paidZ S b))))))) 0 0 56 [(5, .int (nI (k))), (4, .int (nI (u))), (0, .ref 0), (1, .int (nI (b))), (2, .int (nI (c))), (3, .int (nI ((itTo S.st (winB S 1023 &&& bgTo S.ow (1 <<< c) 5) S.ca))))] [] (modW 0 S ((X.rf, wo, ta, (owF S), 0, X.sh, X.lt, X.ty, X.pl, X.nu, X.od, X.tt, X.oo, X.on, (wonZ S), (paidZ S), X.li, X.rr, X.rn, X.dr) : ModN) K) := by
    intro j_
    induction j_ with
    | zero =>
      intro k hk56 u hinv56
      replace hk56 : k = 1 <<< S.ca := hk56
      subst hk56
      refine ev_b bX7_envy_56_63 (lv' := [(5, .int (nI ((1 <<< S.ca)))), (4, .int (nI (u))), (0, .ref 0), (1, .int (nI (b))), (2, .int (nI (c))), (3, .int (nI ((itTo S.st (winB S 1023 &&& bgTo S.ow (1 <<< c) 5) S.ca))))]) (st' := [.int (nI (S.ca)), .int (nI (1)), .int (nI ((1 <<< S.ca)))]) (w2 := modW 0 S ((X.rf, wo, ta, (owF S), 0, X.sh, X.lt, X.ty, X.pl, X.nu, X.od, X.tt, X.oo, X.on, (wonZ S), (paidZ S), X.li, X.rr, X.rn, X.dr) : ModN) K) rfl ?_
      refine ev_ishl_n (by omega) dX7_envy_63 ?_
      refine ev_icmp_ge_n (tgt := 129) (by omega) (by omega) dX7_envy_64 (by decide) (fun h64 => ?_) (fun h64 => (by exfalso; omega))
      have hu := env_end hS hinv56.1
      have hwnb := wonZ_bnd hS b
      have hwnc := wonZ_bnd hS c
      have hpb := paid_bnd hS hb
      have hpc := paid_bnd hS hc
      refine ev_b bX7_envy_129_137 (lv' := [(5, .int (nI ((1 <<< S.ca)))), (4, .int (nI (u))), (0, .ref 0), (1, .int (nI (b))), (2, .int (nI (c))), (3, .int (nI ((itTo S.st (winB S 1023 &&& bgTo S.ow (1 <<< c) 5) S.ca))))]) (st' := [.int (nI (c)), .ref 17, .int (nI (u)), .int (nI (0))]) (w2 := modW 0 S ((X.rf, wo, ta, (owF S), 0, X.sh, X.lt, X.ty, X.pl, X.nu, X.od, X.tt, X.oo, X.on, (wonZ S), (paidZ S), X.li, X.rr, X.rn, X.dr) : ModN) K) rfl ?_
      refine ev_iald_z (f := (paidZ S)) dX7_envy_137 rfl (by omega) (by decide) ?_
      refine ev_top2 (y := zI (((u : Nat) : Int))) (zI_nat _).symm ?_
      refine ev_isub_z dX7_envy_138 ?_
      refine ev_b bX7_envy_139_144 (lv' := [(5, .int (nI ((1 <<< S.ca)))), (4, .int (nI (u))), (0, .ref 0), (1, .int (nI (b))), (2, .int (nI (c))), (3, .int (nI ((itTo S.st (winB S 1023 &&& bgTo S.ow (1 <<< c) 5) S.ca))))]) (st' := [.int (nI (b)), .ref 16, .int (zI ((((u : Nat) : Int)) - (((paidZ S)) c))), .int (nI (0))]) (w2 := modW 0 S ((X.rf, wo, ta, (owF S), 0, X.sh, X.lt, X.ty, X.pl, X.nu, X.od, X.tt, X.oo, X.on, (wonZ S), (paidZ S), X.li, X.rr, X.rn, X.dr) : ModN) K) rfl ?_
      refine ev_iald_z (f := (wonZ S)) dX7_envy_144 rfl (by omega) (by decide) ?_
      refine ev_b bX7_envy_145_150 (lv' := [(5, .int (nI ((1 <<< S.ca)))), (4, .int (nI (u))), (0, .ref 0), (1, .int (nI (b))), (2, .int (nI (c))), (3, .int (nI ((itTo S.st (winB S 1023 &&& bgTo S.ow (1 <<< c) 5) S.ca))))]) (st' := [.int (nI (b)), .ref 17, .int (zI (((wonZ S)) b)), .int (zI ((((u : Nat) : Int)) - (((paidZ S)) c))), .int (nI (0))]) (w2 := modW 0 S ((X.rf, wo, ta, (owF S), 0, X.sh, X.lt, X.ty, X.pl, X.nu, X.od, X.tt, X.oo, X.on, (wonZ S), (paidZ S), X.li, X.rr, X.rn, X.dr) : ModN) K) rfl ?_
      refine ev_iald_z (f := (paidZ S)) dX7_envy_150 rfl (by omega) (by decide) ?_
      refine ev_isub_z dX7_envy_151 ?_
      refine ev_isub_z dX7_envy_152 ?_
      refine ev_top2 (y := zI (((0 : Nat) : Int))) (zI_nat _).symm ?_
      refine ev_max dX7_envy_153 tw_1187 tw_655 tw_15 tw_656 (by decide) (Nat.le_of_ble_eq_true rfl) (Nat.le_refl _) (Nat.le_refl _) ?_
      refine ev_top (z_max (by constructor <;> omega) (by constructor <;> omega)) ?_
      exact ev_iret dX7_envy_156 rfl mod_le (Nat.le_refl _) (Nat.le_refl _) ⟨by rw [hu]; rfl, _, rfl, mok_fresh hM.1 rfl hT, rfl, rfl, rfl, rfl, rfl⟩
    | succ j_ ih56 =>
      intro k hk56 u hinv56
      have hlt56 : k < 1 <<< S.ca := by omega
      have hkw := (hT k hlt56).1
      have hkb := wt_bnd hS k
      have hitk : itTo S.st k S.ca < 64 := itTo_lt S.ca (Nat.le_refl _) (fun k hk => (hS.2.2.1 k hk).2.2.1)
      refine ev_b bX7_envy_56_63 (lv' := [(5, .int (nI (k))), (4, .int (nI (u))), (0, .ref 0), (1, .int (nI (b))), (2, .int (nI (c))), (3, .int (nI ((itTo S.st (winB S 1023 &&& bgTo S.ow (1 <<< c) 5) S.ca))))]) (st' := [.int (nI (S.ca)), .int (nI (1)), .int (nI (k))]) (w2 := modW 0 S ((X.rf, wo, ta, (owF S), 0, X.sh, X.lt, X.ty, X.pl, X.nu, X.od, X.tt, X.oo, X.on, (wonZ S), (paidZ S), X.li, X.rr, X.rn, X.dr) : ModN) K) rfl ?_
      refine ev_ishl_n (by omega) dX7_envy_63 ?_
      refine ev_icmp_ge_n (tgt := 129) (by omega) (by omega) dX7_envy_64 (by decide) (fun h64 => (by exfalso; omega)) (fun h64 => ?_)
      refine ev_b bX7_envy_67_74 (lv' := [(5, .int (nI (k))), (4, .int (nI (u))), (0, .ref 0), (1, .int (nI (b))), (2, .int (nI (c))), (3, .int (nI ((itTo S.st (winB S 1023 &&& bgTo S.ow (1 <<< c) 5) S.ca))))]) (st' := [.int (nI (b)), .ref 10, .int (nI (k))]) (w2 := modW 0 S ((X.rf, wo, ta, (owF S), 0, X.sh, X.lt, X.ty, X.pl, X.nu, X.od, X.tt, X.oo, X.on, (wonZ S), (paidZ S), X.li, X.rr, X.rn, X.dr) : ModN) K) rfl ?_
      refine ev_iald_n (f := (owF S)) dX7_envy_74 rfl (by omega) (by decide) ?_
      refine ev_top (y := (nI (bgTo S.ow (1 <<< b) 5))) (congrArg nI (show ((owF S)) b = bgTo S.ow (1 <<< b) 5 from by exact ow_one hS hb)) ?_
      refine ev_b bX7_envy_75_79 (lv' := [(5, .int (nI (k))), (4, .int (nI (u))), (0, .ref 0), (1, .int (nI (b))), (2, .int (nI (c))), (3, .int (nI ((itTo S.st (winB S 1023 &&& bgTo S.ow (1 <<< c) 5) S.ca))))]) (st' := [.int (nI (S.ac)), .int (nI (bgTo S.ow (1 <<< b) 5)), .int (nI (k))]) (w2 := modW 0 S ((X.rf, wo, ta, (owF S), 0, X.sh, X.lt, X.ty, X.pl, X.nu, X.od, X.tt, X.oo, X.on, (wonZ S), (paidZ S), X.li, X.rr, X.rn, X.dr) : ModN) K) rfl ?_
      refine ev_iand_n dX7_envy_79 ?_
      refine ev_b bX7_envy_80_82 (lv' := [(5, .int (nI (k))), (4, .int (nI (u))), (0, .ref 0), (1, .int (nI (b))), (2, .int (nI (c))), (3, .int (nI ((itTo S.st (winB S 1023 &&& bgTo S.ow (1 <<< c) 5) S.ca))))]) (st' := [.int (nI ((bgTo S.ow (1 <<< b) 5) &&& S.ac) ^^^ (-1)), .int (nI (k))]) (w2 := modW 0 S ((X.rf, wo, ta, (owF S), 0, X.sh, X.lt, X.ty, X.pl, X.nu, X.od, X.tt, X.oo, X.on, (wonZ S), (paidZ S), X.li, X.rr, X.rn, X.dr) : ModN) K) rfl ?_
      refine ev_iandn_n dX7_envy_82 ?_
      refine ev_if_ne_n (tgt := 123) (by exact Nat.lt_of_le_of_lt (xor_and_le _ _) (by omega)) dX7_envy_83 (by decide) (fun h83 => ?_) (fun h83 => ?_)
      · skip
        have hnext := And.intro (env_skip hinv56.1 (fun z => h83 ((env_iff hS z.1).mpr z.2).1)) hinv56.2
        refine ev_iinc_n (x := k) (v := 1) dX7_envy_123 rfl (by decide) ?_
        refine ev_eq (lv' := [(5, .int (nI (k + 1))), (4, .int (nI (u))), (0, .ref 0), (1, .int (nI (b))), (2, .int (nI (c))), (3, .int (nI ((itTo S.st (winB S 1023 &&& bgTo S.ow (1 <<< c) 5) S.ca))))]) rfl rfl rfl ?_
        refine ev_b bX7_envy_126_56 (lv' := [(5, .int (nI (k + 1))), (4, .int (nI (u))), (0, .ref 0), (1, .int (nI (b))), (2, .int (nI (c))), (3, .int (nI ((itTo S.st (winB S 1023 &&& bgTo S.ow (1 <<< c) 5) S.ca))))]) (st' := []) (w2 := modW 0 S ((X.rf, wo, ta, (owF S), 0, X.sh, X.lt, X.ty, X.pl, X.nu, X.od, X.tt, X.oo, X.on, (wonZ S), (paidZ S), X.li, X.rr, X.rn, X.dr) : ModN) K) rfl ?_
        rw [show nI (k + 1) = nI ((k + 1)) from congrArg nI (by omega)]
        exact ih56 (k + 1) (by omega) _ hnext
      · skip
        refine ev_b bX7_envy_86_92 (lv' := [(5, .int (nI (k))), (4, .int (nI (u))), (0, .ref 0), (1, .int (nI (b))), (2, .int (nI (c))), (3, .int (nI ((itTo S.st (winB S 1023 &&& bgTo S.ow (1 <<< c) 5) S.ca))))]) (st' := [.int (nI (k)), .ref 8]) (w2 := modW 0 S ((X.rf, wo, ta, (owF S), 0, X.sh, X.lt, X.ty, X.pl, X.nu, X.od, X.tt, X.oo, X.on, (wonZ S), (paidZ S), X.li, X.rr, X.rn, X.dr) : ModN) K) rfl ?_
        refine ev_iald_z (f := wo) dX7_envy_92 rfl (by omega) (by decide) ?_
        refine ev_if_lt_z (tgt := 123) (by constructor <;> omega) dX7_envy_93 (by decide) (fun h93 => ?_) (fun h93 => ?_)
        · skip
          have hnext := And.intro (env_skip hinv56.1 (fun z => absurd ((out_iff hS (out_sub z.1)).mp z.1) (by omega))) hinv56.2
          refine ev_iinc_n (x := k) (v := 1) dX7_envy_123 rfl (by decide) ?_
          refine ev_eq (lv' := [(5, .int (nI (k + 1))), (4, .int (nI (u))), (0, .ref 0), (1, .int (nI (b))), (2, .int (nI (c))), (3, .int (nI ((itTo S.st (winB S 1023 &&& bgTo S.ow (1 <<< c) 5) S.ca))))]) rfl rfl rfl ?_
          refine ev_b bX7_envy_126_56 (lv' := [(5, .int (nI (k + 1))), (4, .int (nI (u))), (0, .ref 0), (1, .int (nI (b))), (2, .int (nI (c))), (3, .int (nI ((itTo S.st (winB S 1023 &&& bgTo S.ow (1 <<< c) 5) S.ca))))]) (st' := []) (w2 := modW 0 S ((X.rf, wo, ta, (owF S), 0, X.sh, X.lt, X.ty, X.pl, X.nu, X.od, X.tt, X.oo, X.on, (wonZ S), (paidZ S), X.li, X.rr, X.rn, X.dr) : ModN) K) rfl ?_
          rw [show nI (k + 1) = nI ((k + 1)) from congrArg nI (by omega)]
          exact ih56 (k + 1) (by omega) _ hnext
        · skip
          have hko : outc S k := (out_iff hS (sub_r h83)).mpr (by omega)
          refine ev_b bX7_envy_96_102 (lv' := [(5, .int (nI (k))), (4, .int (nI (u))), (0, .ref 0), (1, .int (nI (b))), (2, .int (nI (c))), (3, .int (nI ((itTo S.st (winB S 1023 &&& bgTo S.ow (1 <<< c) 5) S.ca))))]) (st' := [.int (nI (k)), .ref 9]) (w2 := modW 0 S ((X.rf, wo, ta, (owF S), 0, X.sh, X.lt, X.ty, X.pl, X.nu, X.od, X.tt, X.oo, X.on, (wonZ S), (paidZ S), X.li, X.rr, X.rn, X.dr) : ModN) K) rfl ?_
          refine ev_iald_z (f := ta) dX7_envy_102 rfl (by omega) (by decide) ?_
          refine ev_top (y := (nI (itTo S.st k S.ca))) (by rw [show ta k = ((itTo S.st k S.ca : Nat) : Int) from by rw [(hT k hlt56).2]; exact out_tk hko]; exact zI_nat _) ?_
          refine ev_b bX7_envy_103_106 (lv' := [(5, .int (nI (k))), (4, .int (nI (u))), (0, .ref 0), (1, .int (nI (b))), (2, .int (nI (c))), (3, .int (nI ((itTo S.st (winB S 1023 &&& bgTo S.ow (1 <<< c) 5) S.ca))))]) (st' := [.int (nI ((itTo S.st (winB S 1023 &&& bgTo S.ow (1 <<< c) 5) S.ca)) ^^^ (-1)), .int (nI (itTo S.st k S.ca))]) (w2 := modW 0 S ((X.rf, wo, ta, (owF S), 0, X.sh, X.lt, X.ty, X.pl, X.nu, X.od, X.tt, X.oo, X.on, (wonZ S), (paidZ S), X.li, X.rr, X.rn, X.dr) : ModN) K) rfl ?_
          refine ev_iandn_n dX7_envy_106 ?_
          refine ev_if_ne_n (tgt := 123) (by exact Nat.lt_of_le_of_lt (xor_and_le _ _) (by omega)) dX7_envy_107 (by decide) (fun h107 => ?_) (fun h107 => ?_)
          · skip
            have hnext := And.intro (env_skip hinv56.1 (fun z => h107 ((env_iff hS z.1).mpr z.2).2)) hinv56.2
            refine ev_iinc_n (x := k) (v := 1) dX7_envy_123 rfl (by decide) ?_
            refine ev_eq (lv' := [(5, .int (nI (k + 1))), (4, .int (nI (u))), (0, .ref 0), (1, .int (nI (b))), (2, .int (nI (c))), (3, .int (nI ((itTo S.st (winB S 1023 &&& bgTo S.ow (1 <<< c) 5) S.ca))))]) rfl rfl rfl ?_
            refine ev_b bX7_envy_126_56 (lv' := [(5, .int (nI (k + 1))), (4, .int (nI (u))), (0, .ref 0), (1, .int (nI (b))), (2, .int (nI (c))), (3, .int (nI ((itTo S.st (winB S 1023 &&& bgTo S.ow (1 <<< c) 5) S.ca))))]) (st' := []) (w2 := modW 0 S ((X.rf, wo, ta, (owF S), 0, X.sh, X.lt, X.ty, X.pl, X.nu, X.od, X.tt, X.oo, X.on, (wonZ S), (paidZ S), X.li, X.rr, X.rn, X.dr) : ModN) K) rfl ?_
            rw [show nI (k + 1) = nI ((k + 1)) from congrArg nI (by omega)]
            exact ih56 (k + 1) (by omega) _ hnext
          · skip
            have hnz := (env_iff hS hko).mp ⟨h83, h107⟩
            have hnext := And.intro (env_take hinv56.1 hko hnz) (show max u (prTo S.pr k S.ca) ≤ 990 by have := pr_le hS k; omega)
            refine ev_b bX7_envy_110_115 (lv' := [(5, .int (nI (k))), (4, .int (nI (u))), (0, .ref 0), (1, .int (nI (b))), (2, .int (nI (c))), (3, .int (nI ((itTo S.st (winB S 1023 &&& bgTo S.ow (1 <<< c) 5) S.ca))))]) (st' := [.int (nI (k)), .ref 0, .int (nI (u))]) (w2 := modW 0 S ((X.rf, wo, ta, (owF S), 0, X.sh, X.lt, X.ty, X.pl, X.nu, X.od, X.tt, X.oo, X.on, (wonZ S), (paidZ S), X.li, X.rr, X.rn, X.dr) : ModN) K) rfl ?_
            refine ev_callM (Yc := mX7_pricesOf) (st := [.int (nI (u))]) dX7_envy_115 tw_1159 kX7_pricesOf (m_X7_pricesOf S S.kd S.fg ((X.rf, wo, ta, (owF S), 0, X.sh, X.lt, X.ty, X.pl, X.nu, X.od, X.tt, X.oo, X.on, (wonZ S), (paidZ S), X.li, X.rr, X.rn, X.dr) : ModN) K k hS (by omega)) rfl rfl rfl rfl (by decide) (Nat.le_of_ble_eq_true rfl) (Nat.le_refl _) (Nat.le_refl _) (fun r w' h => by obtain ⟨-, rfl⟩ := h; exact mod_eq) ?_
            rintro _ _ ⟨rfl, rfl⟩
            refine ev_eq (lv' := [(5, .int (nI (k))), (4, .int (nI (u))), (0, .ref 0), (1, .int (nI (b))), (2, .int (nI (c))), (3, .int (nI ((itTo S.st (winB S 1023 &&& bgTo S.ow (1 <<< c) 5) S.ca))))]) (st' := [.int (nI (prTo S.pr k S.ca)), .int (nI (u))]) (w' := modW 0 S ((X.rf, wo, ta, (owF S), 0, X.sh, X.lt, X.ty, X.pl, X.nu, X.od, X.tt, X.oo, X.on, (wonZ S), (paidZ S), X.li, X.rr, X.rn, X.dr) : ModN) K) rfl rfl rfl ?_
            have hprk := pr_le hS k
            refine ev_max dX7_envy_118 tw_1187 tw_655 tw_15 tw_656 (by decide) (Nat.le_of_ble_eq_true rfl) (Nat.le_refl _) (Nat.le_refl _) ?_
            refine ev_top (n_max (by omega) (by omega)) ?_
            refine ev_b bX7_envy_121_123 (lv' := [(4, .int (nI (max u (prTo S.pr k S.ca)))), (5, .int (nI (k))), (0, .ref 0), (1, .int (nI (b))), (2, .int (nI (c))), (3, .int (nI ((itTo S.st (winB S 1023 &&& bgTo S.ow (1 <<< c) 5) S.ca))))]) (st' := []) (w2 := modW 0 S ((X.rf, wo, ta, (owF S), 0, X.sh, X.lt, X.ty, X.pl, X.nu, X.od, X.tt, X.oo, X.on, (wonZ S), (paidZ S), X.li, X.rr, X.rn, X.dr) : ModN) K) rfl ?_
            refine ev_iinc_n (x := k) (v := 1) dX7_envy_123 rfl (by decide) ?_
            refine ev_eq (lv' := [(5, .int (nI (k + 1))), (4, .int (nI (max u (prTo S.pr k S.ca)))), (0, .ref 0), (1, .int (nI (b))), (2, .int (nI (c))), (3, .int (nI ((itTo S.st (winB S 1023 &&& bgTo S.ow (1 <<< c) 5) S.ca))))]) rfl rfl rfl ?_
            refine ev_b bX7_envy_126_56 (lv' := [(5, .int (nI (k + 1))), (4, .int (nI (max u (prTo S.pr k S.ca)))), (0, .ref 0), (1, .int (nI (b))), (2, .int (nI (c))), (3, .int (nI ((itTo S.st (winB S 1023 &&& bgTo S.ow (1 <<< c) 5) S.ca))))]) (st' := []) (w2 := modW 0 S ((X.rf, wo, ta, (owF S), 0, X.sh, X.lt, X.ty, X.pl, X.nu, X.od, X.tt, X.oo, X.on, (wonZ S), (paidZ S), X.li, X.rr, X.rn, X.dr) : ModN) K) rfl ?_
            rw [show nI (k + 1) = nI ((k + 1)) from congrArg nI (by omega)]
            exact ih56 (k + 1) (by omega) _ hnext
  refine ev_pick (lv' := [(5, .int (nI (0))), (4, .int (nI (0))), (0, .ref 0), (1, .int (nI (b))), (2, .int (nI (c))), (3, .int (nI ((itTo S.st (winB S 1023 &&& bgTo S.ow (1 <<< c) 5) S.ca))))]) rfl ?_
  exact L56 (1 <<< S.ca) 0 (by omega) 0 ⟨env_start, by omega⟩
