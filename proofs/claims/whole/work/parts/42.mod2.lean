/-- the kinds and figures that the table is of: the sale's own, but a shill's bidder is ANY -/
def KF (F : SaleN) (kd fg : Nat → Nat) (sh : Int) : Prop := (-9 ≤ sh ∧ sh ≤ 4) ∧ ∀ b, b < 5 → if ((b : Nat) : Int) = sh then F.kd b = 0 else (F.kd b = kd b ∧ F.fg b = fg b)
def Cch (F : SaleN) (X : ModN) : Prop := X.sl ≤ 1 ∧ (X.sl = 0 → TabF F X.wo X.ta)
theorem kf_self {S : SaleN} {sh : Int} (h : sh = -9) : KF S S.kd S.fg sh := ⟨by omega, fun b hb => by
  rw [if_neg (by omega)]
  exact ⟨rfl, rfl⟩⟩
def mayTo (F : SaleN) (m : Nat) : Nat → Bool
  | 0 => true
  | q + 1 => mayTo F m q && decide (mayS F m q)
theorem tab_next {F : SaleN} (hF : SaleOK F) {k q : Nat} (hq : q < 5) (h : dsj F.st k F.ca = true ∧ mayTo F k q = true) : mayP (F.kd q) (F.fg q) (pop (k &&& owF F q)) (prTo F.pr (k &&& owF F q) F.ca) (pop (itTo F.st (k &&& owF F q) F.ca)) ↔ (dsj F.st k F.ca = true ∧ mayTo F k (q + 1) = true) := by
  have e : F.ow q = owF F q := (hF.2.2.2.1 q hq).1
  rw [← e]
  show mayS F k q ↔ (dsj F.st k F.ca = true ∧ (mayTo F k q && decide (mayS F k q)) = true)
  rw [h.2, Bool.true_and, decide_eq_true_eq]
  exact ⟨fun z => ⟨h.1, z⟩, fun z => z.2⟩
theorem may_to {F : SaleN} {k : Nat} : ∀ q, mayTo F k q = true ↔ ∀ j, j < q → mayS F k j
  | 0 => ⟨fun _ j hj => absurd hj (Nat.not_lt_zero j), fun _ => rfl⟩
  | q + 1 => by
    show (mayTo F k q && decide (mayS F k q)) = true ↔ _
    rw [Bool.and_eq_true, may_to q, decide_eq_true_eq]
    constructor
    · intro h j hj
      by_cases e : j = q
      · subst e; exact h.2
      · exact h.1 j (by omega)
    · intro h
      exact ⟨fun j hj => h j (by omega), h q (by omega)⟩
theorem tab_no {F : SaleN} {k q : Nat} (hq : q ≤ 5) (h : ¬ (dsj F.st k F.ca = true ∧ mayTo F k q = true)) : (-1 : Int) = wtZ F k := (if_neg (fun z => h ⟨z.1, (may_to q).mpr fun j hj => z.2 j (by omega)⟩)).symm
theorem tab_yes {F : SaleN} {k : Nat} (h : dsj F.st k F.ca = true ∧ mayTo F k 5 = true) : ((rbTo F.rs (itTo F.st k F.ca) 6 + prTo F.pr k F.ca : Nat) : Int) = wtZ F k := by
  unfold wtZ
  rw [if_pos ⟨h.1, (may_to 5).mp h.2⟩]
  unfold worthN
  omega
theorem wt_bnd {F : SaleN} (hF : SaleOK F) (m : Nat) : -1 ≤ wtZ F m ∧ wtZ F m ≤ 2000 := by
  unfold wtZ
  split
  · have h1 := pr_le hF m
    have h2 := rbTo_le (rs := F.rs) (items := itTo F.st m F.ca) 6 (Nat.le_refl _) hF.2.2.2.2
    have h3 : worthN F m ≤ 1044 := by unfold worthN; omega
    omega
  · omega
theorem tk_bnd {F : SaleN} (hF : SaleOK F) (m : Nat) : -1 ≤ tkZ F m ∧ tkZ F m ≤ 63 := by
  unfold tkZ
  split
  · have := itTo_lt (st := F.st) (bits := m) F.ca (Nat.le_refl _) (fun k hk => (hF.2.2.1 k hk).2.2.1)
    omega
  · omega
theorem shl_le {F : SaleN} (hF : SaleOK F) : 1 <<< F.ca ≤ 1024 := by
  rw [Nat.one_shiftLeft]
  exact pow_ca hF
theorem own_lt {F : SaleN} (hF : SaleOK F) (k b : Nat) : k &&& owF F b < 1024 ∧ k &&& owF F b < 2 ^ F.ca := by
  have h1 : owF F b < 2 ^ F.ca := ownTo_lt F.ca
  have h2 := pow_ca hF
  have h3 : k &&& owF F b ≤ owF F b := Nat.and_le_right
  omega
theorem sub_r {m x a : Nat} (h : andn m (x &&& a) = 0) : andn m a = 0 := by
  rw [andn_0] at h ⊢
  intro i hi
  have := h i hi
  rw [Nat.testBit_and, Bool.and_eq_true] at this
  exact this.2
theorem sub_lt {F : SaleN} (hF : SaleOK F) {m : Nat} (h : andn m F.ac = 0) : m < 1 <<< F.ca := by
  have := sub_le h
  have := hF.2.1
  rw [Nat.one_shiftLeft]
  omega
theorem bit_b01 {c : Prop} [Decidable c] (h : c) : nI 1 = nI (b01 c) := by rw [b01_t h]
theorem bit_b00 {c : Prop} [Decidable c] (h : ¬ c) : nI 0 = nI (b01 c) := by rw [b01_f h]
theorem bX7_tabulates_0_1 {l : Launch} {E : XE} : Snd l E mX7_tabulates 0 1 (xs [x_aload 0]) := Snd.cons (snd_aload_n (i := 0) dX7_tabulates_0 rfl) Snd.nil
theorem bX7_tabulates_4_6 {l : Launch} {E : XE} : Snd l E mX7_tabulates 4 6 (xs [x_push (.int (nI 0)), x_istore 1]) := Snd.cons (snd_iconst (v := nI 0) dX7_tabulates_4 (by decide)) (Snd.cons (snd_istore_n (i := 1) dX7_tabulates_5 rfl (by decide)) Snd.nil)
theorem bX7_tabulates_6_12 {l : Launch} {E : XE} : Snd l E mX7_tabulates 6 12 (xs [x_iload 1, x_push (.int (nI 1)), x_aload 0, x_get 8 6]) := Snd.cons (snd_iload_n (i := 1) dX7_tabulates_6 rfl) (Snd.cons (snd_iconst (v := nI 1) dX7_tabulates_7 (by decide)) (Snd.cons (snd_aload_n (i := 0) dX7_tabulates_8 rfl) (Snd.cons (snd_get (ci := 8) (k := 6) dX7_tabulates_9 rfl inX7 (by decide) tw_920) Snd.nil)))
theorem bX7_tabulates_104_106 {l : Launch} {E : XE} : Snd l E mX7_tabulates 104 106 (xs [x_aload 0, x_push (.int (nI 0))]) := Snd.cons (snd_aload_n (i := 0) dX7_tabulates_104 rfl) (Snd.cons (snd_iconst (v := nI 0) dX7_tabulates_105 (by decide)) Snd.nil)
theorem bX7_tabulates_16_23 {l : Launch} {E : XE} : Snd l E mX7_tabulates 16 23 (xs [x_aload 0, x_get 8 10, x_iload 1, x_aload 0, x_iload 1]) := Snd.cons (snd_aload_n (i := 0) dX7_tabulates_16 rfl) (Snd.cons (snd_get (ci := 8) (k := 10) dX7_tabulates_17 rfl inX7 (by decide) tw_924) (Snd.cons (snd_iload_n (i := 1) dX7_tabulates_20 rfl) (Snd.cons (snd_aload_n (i := 0) dX7_tabulates_21 rfl) (Snd.cons (snd_iload_n (i := 1) dX7_tabulates_22 rfl) Snd.nil))))
theorem bX7_tabulates_27_32 {l : Launch} {E : XE} : Snd l E mX7_tabulates 27 32 (xs [x_aload 0, x_get 8 10, x_iload 1]) := Snd.cons (snd_aload_n (i := 0) dX7_tabulates_27 rfl) (Snd.cons (snd_get (ci := 8) (k := 10) dX7_tabulates_28 rfl inX7 (by decide) tw_924) (Snd.cons (snd_iload_n (i := 1) dX7_tabulates_31 rfl) Snd.nil))
theorem bX7_tabulates_40_42 {l : Launch} {E : XE} : Snd l E mX7_tabulates 40 42 (xs [x_push (.int (nI 0)), x_istore 2]) := Snd.cons (snd_iconst (v := nI 0) dX7_tabulates_40 (by decide)) (Snd.cons (snd_istore_n (i := 2) dX7_tabulates_41 rfl (by decide)) Snd.nil)
theorem bX7_tabulates_42_44 {l : Launch} {E : XE} : Snd l E mX7_tabulates 42 44 (xs [x_push (.int (nI 0)), x_istore 3]) := Snd.cons (snd_iconst (v := nI 0) dX7_tabulates_42 (by decide)) (Snd.cons (snd_istore_n (i := 3) dX7_tabulates_43 rfl (by decide)) Snd.nil)
theorem bX7_tabulates_44_46 {l : Launch} {E : XE} : Snd l E mX7_tabulates 44 46 (xs [x_iload 3, x_push (.int (nI 5))]) := Snd.cons (snd_iload_n (i := 3) dX7_tabulates_44 rfl) (Snd.cons (snd_iconst (v := nI 5) dX7_tabulates_45 (by decide)) Snd.nil)
theorem bX7_tabulates_73_79 {l : Launch} {E : XE} : Snd l E mX7_tabulates 73 79 (xs [x_aload 0, x_get 8 9, x_iload 1, x_iload 2]) := Snd.cons (snd_aload_n (i := 0) dX7_tabulates_73 rfl) (Snd.cons (snd_get (ci := 8) (k := 9) dX7_tabulates_74 rfl inX7 (by decide) tw_923) (Snd.cons (snd_iload_n (i := 1) dX7_tabulates_77 rfl) (Snd.cons (snd_iload_n (i := 2) dX7_tabulates_78 rfl) Snd.nil)))
theorem bX7_tabulates_96_97 {l : Launch} {E : XE} : Snd l E mX7_tabulates 96 97 (xs [x_push (.int (-1))]) := Snd.cons (snd_iconst (v := -1) dX7_tabulates_96 (by decide)) Snd.nil
theorem bX7_tabulates_101_6 {l : Launch} {E : XE} : Snd l E mX7_tabulates 101 6 (xs [x_id]) := Snd.cons (snd_goto (tgt := 6) dX7_tabulates_101 (by decide)) Snd.nil
theorem bX7_tabulates_82_89 {l : Launch} {E : XE} : Snd l E mX7_tabulates 82 89 (xs [x_aload 0, x_iload 1, x_aload 0, x_get 8 10, x_iload 1]) := Snd.cons (snd_aload_n (i := 0) dX7_tabulates_82 rfl) (Snd.cons (snd_iload_n (i := 1) dX7_tabulates_83 rfl) (Snd.cons (snd_aload_n (i := 0) dX7_tabulates_84 rfl) (Snd.cons (snd_get (ci := 8) (k := 10) dX7_tabulates_85 rfl inX7 (by decide) tw_924) (Snd.cons (snd_iload_n (i := 1) dX7_tabulates_88 rfl) Snd.nil))))
theorem bX7_tabulates_93_97 {l : Launch} {E : XE} : Snd l E mX7_tabulates 93 97 (xs [x_id]) := Snd.cons (snd_goto (tgt := 97) dX7_tabulates_93 (by decide)) Snd.nil
theorem bX7_tabulates_49_50 {l : Launch} {E : XE} : Snd l E mX7_tabulates 49 50 (xs [x_iload 2]) := Snd.cons (snd_iload_n (i := 2) dX7_tabulates_49 rfl) Snd.nil
theorem bX7_tabulates_53_61 {l : Launch} {E : XE} : Snd l E mX7_tabulates 53 61 (xs [x_aload 0, x_iload 3, x_iload 1, x_aload 0, x_get 8 11, x_iload 3]) := Snd.cons (snd_aload_n (i := 0) dX7_tabulates_53 rfl) (Snd.cons (snd_iload_n (i := 3) dX7_tabulates_54 rfl) (Snd.cons (snd_iload_n (i := 1) dX7_tabulates_55 rfl) (Snd.cons (snd_aload_n (i := 0) dX7_tabulates_56 rfl) (Snd.cons (snd_get (ci := 8) (k := 11) dX7_tabulates_57 rfl inX7 (by decide) tw_925) (Snd.cons (snd_iload_n (i := 3) dX7_tabulates_60 rfl) Snd.nil)))))
theorem bX7_tabulates_66_67 {l : Launch} {E : XE} : Snd l E mX7_tabulates 66 67 (xs [x_istore 2]) := Snd.cons (snd_istore_n (i := 2) dX7_tabulates_66 rfl (by decide)) Snd.nil
theorem bX7_tabulates_70_44 {l : Launch} {E : XE} : Snd l E mX7_tabulates 70 44 (xs [x_id]) := Snd.cons (snd_goto (tgt := 44) dX7_tabulates_70 (by decide)) Snd.nil
theorem bX7_tabulates_36_42 {l : Launch} {E : XE} : Snd l E mX7_tabulates 36 42 (xs [x_push (.int (nI 1)), x_id, x_istore 2]) := Snd.cons (snd_iconst (v := nI 1) dX7_tabulates_36 (by decide)) (Snd.cons (snd_goto (tgt := 41) dX7_tabulates_37 (by decide)) (Snd.cons (snd_istore_n (i := 2) dX7_tabulates_41 rfl (by decide)) Snd.nil))
set_option maxHeartbeats 4000000 in
set_option maxRecDepth 100000 in
theorem m_X7_tabulates {l : Launch} {E : XE} (F : SaleN) (kd fg : Nat → Nat) (X : ModN) (K : Option (Nat → Nat)) (hF : SaleOK F) (hkf : KF F kd fg X.sh) : MetE l E mX7_tabulates (2) 0 0 [.ref 0] (modW 0 ((F.bd, F.st, F.pr, F.ow, kd, fg, F.rs, F.ca, F.ac) : SaleN) X K) (fun r w' => r = none ∧ ∃ wo ta : Nat → Int, w' = modW 0 ((F.bd, F.st, F.pr, F.ow, kd, fg, F.rs, F.ca, F.ac) : SaleN) (tbX X wo ta (owF F)) K ∧ TabF F wo ta) := by
  refine MetE.of (by decide +kernel) (Nat.le_of_ble_eq_true rfl) ?_
  have hca := hF.1
  have hshl := shl_le hF
  refine ev_eq (lv' := [(0, .ref 0)]) (st' := []) (w' := modW 0 ((F.bd, F.st, F.pr, F.ow, kd, fg, F.rs, F.ca, F.ac) : SaleN) X K) rfl rfl rfl ?_
  refine ev_b bX7_tabulates_0_1 (lv' := [(0, .ref 0)]) (st' := [.ref 0]) (w2 := modW 0 ((F.bd, F.st, F.pr, F.ow, kd, fg, F.rs, F.ca, F.ac) : SaleN) X K) rfl ?_
  refine ev_callM (Yc := mX7_findOwn) (st := []) dX7_tabulates_1 tw_1120 kX7_findOwn (m_X7_findOwn ((F.bd, F.st, F.pr, F.ow, kd, fg, F.rs, F.ca, F.ac) : SaleN) X K hca (fun k hk => (hF.2.2.1 k hk).1)) rfl rfl rfl rfl (by decide) (Nat.le_of_ble_eq_true rfl) (Nat.le_refl _) (Nat.le_refl _) (fun r w' h => by obtain ⟨-, rfl⟩ := h; exact mod_eq) ?_
  rintro _ _ ⟨rfl, rfl⟩
  refine ev_eq (lv' := [(0, .ref 0)]) (st' := []) (w' := modW 0 ((F.bd, F.st, F.pr, F.ow, kd, fg, F.rs, F.ca, F.ac) : SaleN) ((X.rf, X.wo, X.ta, (owF F), X.sl, X.sh, X.lt, X.ty, X.pl, X.nu, X.od, X.tt, X.oo, X.on, X.wn, X.pd, X.li, X.rr, X.rn, X.dr) : ModN) K) rfl rfl rfl ?_
  refine ev_b bX7_tabulates_4_6 (lv' := [(1, .int (nI (0))), (0, .ref 0)]) (st' := []) (w2 := modW 0 ((F.bd, F.st, F.pr, F.ow, kd, fg, F.rs, F.ca, F.ac) : SaleN) ((X.rf, X.wo, X.ta, (owF F), X.sl, X.sh, X.lt, X.ty, X.pl, X.nu, X.od, X.tt, X.oo, X.on, X.wn, X.pd, X.li, X.rr, X.rn, X.dr) : ModN) K) rfl ?_
  have L6 : ∀ (j_ k : Nat), k + j_ = 1 <<< F.ca → ∀ (wo ta : Nat → Int), (∀ j, j < k → wo j = wtZ F j ∧ ta j = tkZ F j) → Ev l E mX7_tabulates (2) 0 0 (modW 0 ((F.bd, F.st, F.pr, F.ow, kd, fg, F.rs, F.ca, F.ac) : SaleN) X K) (fun r w' => r = none ∧ ∃ wo ta : Nat → Int, w' = modW 0 ((F.bd, F.st, F.pr, F.ow, kd, fg, F.rs, F.ca, F.ac) : SaleN) (tbX X wo ta (owF F)) K ∧ TabF F wo ta) 0 0 6 [(1, .int (nI (k))), (0, .ref 0)] [] (modW 0 ((F.bd, F.st, F.pr, F.ow, kd, fg, F.rs, F.ca, F.ac) : SaleN) ((X.rf, wo, ta, (owF F), X.sl, X.sh, X.lt, X.ty, X.pl, X.nu, X.od, X.tt, X.oo, X.on, X.wn, X.pd, X.li, X.rr, X.rn, X.dr) : ModN) K) := by
    intro j_
    induction j_ with
    | zero =>
      intro k hk6 wo ta hinv6
      replace hk6 : k = 1 <<< F.ca := hk6
      subst hk6
      refine ev_b bX7_tabulates_6_12 (lv' := [(1, .int (nI ((1 <<< F.ca)))), (0, .ref 0)]) (st' := [.int (nI (F.ca)), .int (nI (1)), .int (nI ((1 <<< F.ca)))]) (w2 := modW 0 ((F.bd, F.st, F.pr, F.ow, kd, fg, F.rs, F.ca, F.ac) : SaleN) ((X.rf, wo, ta, (owF F), X.sl, X.sh, X.lt, X.ty, X.pl, X.nu, X.od, X.tt, X.oo, X.on, X.wn, X.pd, X.li, X.rr, X.rn, X.dr) : ModN) K) rfl ?_
      refine ev_ishl_n (by omega) dX7_tabulates_12 ?_
      refine ev_icmp_ge_n (tgt := 104) (by omega) (by omega) dX7_tabulates_13 (by decide) (fun h13 => ?_) (fun h13 => (by exfalso; omega))
      refine ev_b bX7_tabulates_104_106 (lv' := [(1, .int (nI ((1 <<< F.ca)))), (0, .ref 0)]) (st' := [.int (nI (0)), .ref 0]) (w2 := modW 0 ((F.bd, F.st, F.pr, F.ow, kd, fg, F.rs, F.ca, F.ac) : SaleN) ((X.rf, wo, ta, (owF F), X.sl, X.sh, X.lt, X.ty, X.pl, X.nu, X.od, X.tt, X.oo, X.on, X.wn, X.pd, X.li, X.rr, X.rn, X.dr) : ModN) K) rfl ?_
      refine snd_put (ci := 8) (k := 12) (a := 0) dX7_tabulates_106 rfl inX7 tyX7_ok nmX7 (by decide) tw_926 rfl rfl (Nat.le_of_ble_eq_true rfl) (fun _ => rfl) (fun _ => rfl) ?_
      refine ev_eq (w' := modW 0 ((F.bd, F.st, F.pr, F.ow, kd, fg, F.rs, F.ca, F.ac) : SaleN) ((X.rf, wo, ta, (owF F), 0, X.sh, X.lt, X.ty, X.pl, X.nu, X.od, X.tt, X.oo, X.on, X.wn, X.pd, X.li, X.rr, X.rn, X.dr) : ModN) K) rfl rfl rfl ?_
      exact ev_vret dX7_tabulates_109 rfl mod_le (Nat.le_refl _) (Nat.le_refl _) ⟨rfl, _, _, rfl, hinv6⟩
    | succ j_ ih6 =>
      intro k hk6 wo ta hinv6
      have hlt6 : k < 1 <<< F.ca := by omega
      have htk := tk_bnd hF k
      have hit : itTo F.st k F.ca < 64 := itTo_lt F.ca (Nat.le_refl _) (fun k hk => (hF.2.2.1 k hk).2.2.1)
      refine ev_b bX7_tabulates_6_12 (lv' := [(1, .int (nI (k))), (0, .ref 0)]) (st' := [.int (nI (F.ca)), .int (nI (1)), .int (nI (k))]) (w2 := modW 0 ((F.bd, F.st, F.pr, F.ow, kd, fg, F.rs, F.ca, F.ac) : SaleN) ((X.rf, wo, ta, (owF F), X.sl, X.sh, X.lt, X.ty, X.pl, X.nu, X.od, X.tt, X.oo, X.on, X.wn, X.pd, X.li, X.rr, X.rn, X.dr) : ModN) K) rfl ?_
      refine ev_ishl_n (by omega) dX7_tabulates_12 ?_
      refine ev_icmp_ge_n (tgt := 104) (by omega) (by omega) dX7_tabulates_13 (by decide) (fun h13 => (by exfalso; omega)) (fun h13 => ?_)
      refine ev_b bX7_tabulates_16_23 (lv' := [(1, .int (nI (k))), (0, .ref 0)]) (st' := [.int (nI (k)), .ref 0, .int (nI (k)), .ref 9]) (w2 := modW 0 ((F.bd, F.st, F.pr, F.ow, kd, fg, F.rs, F.ca, F.ac) : SaleN) ((X.rf, wo, ta, (owF F), X.sl, X.sh, X.lt, X.ty, X.pl, X.nu, X.od, X.tt, X.oo, X.on, X.wn, X.pd, X.li, X.rr, X.rn, X.dr) : ModN) K) rfl ?_
      refine ev_callM (Yc := mX7_itemsOf) (st := [.int (nI (k)), .ref 9]) dX7_tabulates_23 tw_1124 kX7_itemsOf (m_X7_itemsOf F kd fg ((X.rf, wo, ta, (owF F), X.sl, X.sh, X.lt, X.ty, X.pl, X.nu, X.od, X.tt, X.oo, X.on, X.wn, X.pd, X.li, X.rr, X.rn, X.dr) : ModN) K k hF (by omega)) rfl rfl rfl rfl (by decide) (Nat.le_of_ble_eq_true rfl) (Nat.le_refl _) (Nat.le_refl _) (fun r w' h => by obtain ⟨-, rfl⟩ := h; exact mod_eq) ?_
      rintro _ _ ⟨rfl, rfl⟩
      refine ev_eq (lv' := [(1, .int (nI (k))), (0, .ref 0)]) (st' := [.int (zI (tkZ F k)), .int (nI (k)), .ref 9]) (w' := modW 0 ((F.bd, F.st, F.pr, F.ow, kd, fg, F.rs, F.ca, F.ac) : SaleN) ((X.rf, wo, ta, (owF F), X.sl, X.sh, X.lt, X.ty, X.pl, X.nu, X.od, X.tt, X.oo, X.on, X.wn, X.pd, X.li, X.rr, X.rn, X.dr) : ModN) K) rfl rfl rfl ?_
      refine ev_iast_z (f := ta) dX7_tabulates_26 rfl (by omega) (by decide) ?_
      refine ev_eq (w' := modW 0 ((F.bd, F.st, F.pr, F.ow, kd, fg, F.rs, F.ca, F.ac) : SaleN) ((X.rf, wo, up ta k (tkZ F k), (owF F), X.sl, X.sh, X.lt, X.ty, X.pl, X.nu, X.od, X.tt, X.oo, X.on, X.wn, X.pd, X.li, X.rr, X.rn, X.dr) : ModN) K) rfl rfl rfl ?_
      refine ev_b bX7_tabulates_27_32 (lv' := [(1, .int (nI (k))), (0, .ref 0)]) (st' := [.int (nI (k)), .ref 9]) (w2 := modW 0 ((F.bd, F.st, F.pr, F.ow, kd, fg, F.rs, F.ca, F.ac) : SaleN) ((X.rf, wo, up ta k (tkZ F k), (owF F), X.sl, X.sh, X.lt, X.ty, X.pl, X.nu, X.od, X.tt, X.oo, X.on, X.wn, X.pd, X.li, X.rr, X.rn, X.dr) : ModN) K) rfl ?_
      refine ev_iald_z (f := up ta k (tkZ F k)) dX7_tabulates_32 rfl (by omega) (by decide) ?_
      refine ev_top (y := (zI (tkZ F k))) (congrArg zI (show (up ta k (tkZ F k)) k = tkZ F k from by exact up_at _ _ _)) ?_
      refine ev_if_lt_z (tgt := 40) (by constructor <;> omega) dX7_tabulates_33 (by decide) (fun h33 => ?_) (fun h33 => ?_)
      · skip
        refine ev_b bX7_tabulates_40_42 (lv' := [(2, .int (nI (0))), (1, .int (nI (k))), (0, .ref 0)]) (st' := []) (w2 := modW 0 ((F.bd, F.st, F.pr, F.ow, kd, fg, F.rs, F.ca, F.ac) : SaleN) ((X.rf, wo, up ta k (tkZ F k), (owF F), X.sl, X.sh, X.lt, X.ty, X.pl, X.nu, X.od, X.tt, X.oo, X.on, X.wn, X.pd, X.li, X.rr, X.rn, X.dr) : ModN) K) rfl ?_
        refine ev_eq (lv' := [(2, .int (nI (b01 (dsj F.st k F.ca = true)))), (1, .int (nI (k))), (0, .ref 0)]) (by rw [← bit_b00 (fun z => absurd (show 0 ≤ tkZ F k by rw [show tkZ F k = ((itTo F.st k F.ca : Nat) : Int) from if_pos z]; omega) (by omega))]) rfl rfl ?_
        refine ev_b bX7_tabulates_42_44 (lv' := [(3, .int (nI (0))), (2, .int (nI (b01 (dsj F.st k F.ca = true)))), (1, .int (nI (k))), (0, .ref 0)]) (st' := []) (w2 := modW 0 ((F.bd, F.st, F.pr, F.ow, kd, fg, F.rs, F.ca, F.ac) : SaleN) ((X.rf, wo, up ta k (tkZ F k), (owF F), X.sl, X.sh, X.lt, X.ty, X.pl, X.nu, X.od, X.tt, X.oo, X.on, X.wn, X.pd, X.li, X.rr, X.rn, X.dr) : ModN) K) rfl ?_
        have L44 : ∀ (j_ q : Nat), q + j_ = 5 → Ev l E mX7_tabulates (2) 0 0 (modW 0 ((F.bd, F.st, F.pr, F.ow, kd, fg, F.rs, F.ca, F.ac) : SaleN) X K) (fun r w' => r = none ∧ ∃ wo ta : Nat → Int, w' = modW 0 ((F.bd, F.st, F.pr, F.ow, kd, fg, F.rs, F.ca, F.ac) : SaleN) (tbX X wo ta (owF F)) K ∧ TabF F wo ta) 0 0 44 [(3, .int (nI (q))), (2, .int (nI (b01 (dsj F.st k F.ca = true ∧ mayTo F k q = true)))), (0, .ref 0), (1, .int (nI (k)))] [] (modW 0 ((F.bd, F.st, F.pr, F.ow, kd, fg, F.rs, F.ca, F.ac) : SaleN) ((X.rf, wo, up ta k (tkZ F k), (owF F), X.sl, X.sh, X.lt, X.ty, X.pl, X.nu, X.od, X.tt, X.oo, X.on, X.wn, X.pd, X.li, X.rr, X.rn, X.dr) : ModN) K) := by
          intro j_
          induction j_ with
          | zero =>
            intro q hk44  
            replace hk44 : q = 5 := hk44
            subst hk44
            refine ev_b bX7_tabulates_44_46 (lv' := [(3, .int (nI (5))), (2, .int (nI (b01 (dsj F.st k F.ca = true ∧ mayTo F k 5 = true)))), (0, .ref 0), (1, .int (nI (k)))]) (st' := [.int (nI (5)), .int (nI (5))]) (w2 := modW 0 ((F.bd, F.st, F.pr, F.ow, kd, fg, F.rs, F.ca, F.ac) : SaleN) ((X.rf, wo, up ta k (tkZ F k), (owF F), X.sl, X.sh, X.lt, X.ty, X.pl, X.nu, X.od, X.tt, X.oo, X.on, X.wn, X.pd, X.li, X.rr, X.rn, X.dr) : ModN) K) rfl ?_
            refine ev_icmp_ge_n (tgt := 73) (by decide) (by decide) dX7_tabulates_46 (by decide) (fun h46 => ?_) (fun h46 => (by exfalso; omega))
            refine ev_b bX7_tabulates_73_79 (lv' := [(3, .int (nI (5))), (2, .int (nI (b01 (dsj F.st k F.ca = true ∧ mayTo F k 5 = true)))), (0, .ref 0), (1, .int (nI (k)))]) (st' := [.int (nI (b01 (dsj F.st k F.ca = true ∧ mayTo F k 5 = true))), .int (nI (k)), .ref 8]) (w2 := modW 0 ((F.bd, F.st, F.pr, F.ow, kd, fg, F.rs, F.ca, F.ac) : SaleN) ((X.rf, wo, up ta k (tkZ F k), (owF F), X.sl, X.sh, X.lt, X.ty, X.pl, X.nu, X.od, X.tt, X.oo, X.on, X.wn, X.pd, X.li, X.rr, X.rn, X.dr) : ModN) K) rfl ?_
            refine ev_ifeq_b (tgt := 96) dX7_tabulates_79 (by decide) (fun h79 => ?_) (fun h79 => ?_)
            · skip
              refine ev_b bX7_tabulates_96_97 (lv' := [(3, .int (nI (5))), (2, .int (nI (b01 (dsj F.st k F.ca = true ∧ mayTo F k 5 = true)))), (0, .ref 0), (1, .int (nI (k)))]) (st' := [.int (-1), .int (nI (k)), .ref 8]) (w2 := modW 0 ((F.bd, F.st, F.pr, F.ow, kd, fg, F.rs, F.ca, F.ac) : SaleN) ((X.rf, wo, up ta k (tkZ F k), (owF F), X.sl, X.sh, X.lt, X.ty, X.pl, X.nu, X.od, X.tt, X.oo, X.on, X.wn, X.pd, X.li, X.rr, X.rn, X.dr) : ModN) K) rfl ?_
              refine ev_top (y := zI (-1)) (by decide) ?_
              refine ev_iast_z (f := wo) dX7_tabulates_97 rfl (by omega) (by decide) ?_
              refine ev_eq (w' := modW 0 ((F.bd, F.st, F.pr, F.ow, kd, fg, F.rs, F.ca, F.ac) : SaleN) ((X.rf, up wo k (-1), up ta k (tkZ F k), (owF F), X.sl, X.sh, X.lt, X.ty, X.pl, X.nu, X.od, X.tt, X.oo, X.on, X.wn, X.pd, X.li, X.rr, X.rn, X.dr) : ModN) K) rfl rfl rfl ?_
              refine ev_iinc_n (x := k) (v := 1) dX7_tabulates_98 rfl (by decide) ?_
              refine ev_eq (lv' := [(1, .int (nI (k + 1))), (3, .int (nI (5))), (2, .int (nI (b01 (dsj F.st k F.ca = true ∧ mayTo F k 5 = true)))), (0, .ref 0)]) rfl rfl rfl ?_
              refine ev_b bX7_tabulates_101_6 (lv' := [(1, .int (nI (k + 1))), (3, .int (nI (5))), (2, .int (nI (b01 (dsj F.st k F.ca = true ∧ mayTo F k 5 = true)))), (0, .ref 0)]) (st' := []) (w2 := modW 0 ((F.bd, F.st, F.pr, F.ow, kd, fg, F.rs, F.ca, F.ac) : SaleN) ((X.rf, up wo k (-1), up ta k (tkZ F k), (owF F), X.sl, X.sh, X.lt, X.ty, X.pl, X.nu, X.od, X.tt, X.oo, X.on, X.wn, X.pd, X.li, X.rr, X.rn, X.dr) : ModN) K) rfl ?_
              refine ev_pick (lv' := [(1, .int (nI (k + 1))), (0, .ref 0)]) rfl ?_
              rw [show nI (k + 1) = nI ((k + 1)) from congrArg nI (by omega)]
              exact ih6 (k + 1) (by omega) _ _ (tab_up hinv6 (by first | exact tab_no (by omega) h79 | exact tab_yes h79 | exact absurd h79 h50))
            · skip
              refine ev_b bX7_tabulates_82_89 (lv' := [(3, .int (nI (5))), (2, .int (nI (b01 (dsj F.st k F.ca = true ∧ mayTo F k 5 = true)))), (0, .ref 0), (1, .int (nI (k)))]) (st' := [.int (nI (k)), .ref 9, .int (nI (k)), .ref 0, .int (nI (k)), .ref 8]) (w2 := modW 0 ((F.bd, F.st, F.pr, F.ow, kd, fg, F.rs, F.ca, F.ac) : SaleN) ((X.rf, wo, up ta k (tkZ F k), (owF F), X.sl, X.sh, X.lt, X.ty, X.pl, X.nu, X.od, X.tt, X.oo, X.on, X.wn, X.pd, X.li, X.rr, X.rn, X.dr) : ModN) K) rfl ?_
              refine ev_iald_z (f := up ta k (tkZ F k)) dX7_tabulates_89 rfl (by omega) (by decide) ?_
              refine ev_top (y := (nI (itTo F.st k F.ca))) (by rw [show (up ta k (tkZ F k)) k = ((itTo F.st k F.ca : Nat) : Int) from by rw [up_at]; exact if_pos h79.1]; exact zI_nat _) ?_
              refine ev_callM (Yc := mX7_worthOf) (st := [.int (nI (k)), .ref 8]) dX7_tabulates_90 tw_1135 kX7_worthOf (m_X7_worthOf F kd fg ((X.rf, wo, up ta k (tkZ F k), (owF F), X.sl, X.sh, X.lt, X.ty, X.pl, X.nu, X.od, X.tt, X.oo, X.on, X.wn, X.pd, X.li, X.rr, X.rn, X.dr) : ModN) K k (itTo F.st k F.ca) hF (by omega) (by omega)) rfl rfl rfl rfl (by decide) (Nat.le_of_ble_eq_true rfl) (Nat.le_refl _) (Nat.le_refl _) (fun r w' h => by obtain ⟨-, rfl⟩ := h; exact mod_eq) ?_
              rintro _ _ ⟨rfl, rfl⟩
              refine ev_eq (lv' := [(3, .int (nI (5))), (2, .int (nI (b01 (dsj F.st k F.ca = true ∧ mayTo F k 5 = true)))), (0, .ref 0), (1, .int (nI (k)))]) (st' := [.int (nI (rbTo F.rs (itTo F.st k F.ca) 6 + prTo F.pr k F.ca)), .int (nI (k)), .ref 8]) (w' := modW 0 ((F.bd, F.st, F.pr, F.ow, kd, fg, F.rs, F.ca, F.ac) : SaleN) ((X.rf, wo, up ta k (tkZ F k), (owF F), X.sl, X.sh, X.lt, X.ty, X.pl, X.nu, X.od, X.tt, X.oo, X.on, X.wn, X.pd, X.li, X.rr, X.rn, X.dr) : ModN) K) rfl rfl rfl ?_
              refine ev_b bX7_tabulates_93_97 (lv' := [(3, .int (nI (5))), (2, .int (nI (b01 (dsj F.st k F.ca = true ∧ mayTo F k 5 = true)))), (0, .ref 0), (1, .int (nI (k)))]) (st' := [.int (nI (rbTo F.rs (itTo F.st k F.ca) 6 + prTo F.pr k F.ca)), .int (nI (k)), .ref 8]) (w2 := modW 0 ((F.bd, F.st, F.pr, F.ow, kd, fg, F.rs, F.ca, F.ac) : SaleN) ((X.rf, wo, up ta k (tkZ F k), (owF F), X.sl, X.sh, X.lt, X.ty, X.pl, X.nu, X.od, X.tt, X.oo, X.on, X.wn, X.pd, X.li, X.rr, X.rn, X.dr) : ModN) K) rfl ?_
              refine ev_top (y := zI (((rbTo F.rs (itTo F.st k F.ca) 6 + prTo F.pr k F.ca : Nat) : Int))) (zI_nat _).symm ?_
              refine ev_iast_z (f := wo) dX7_tabulates_97 rfl (by omega) (by decide) ?_
              refine ev_eq (w' := modW 0 ((F.bd, F.st, F.pr, F.ow, kd, fg, F.rs, F.ca, F.ac) : SaleN) ((X.rf, up wo k (((rbTo F.rs (itTo F.st k F.ca) 6 + prTo F.pr k F.ca : Nat) : Int)), up ta k (tkZ F k), (owF F), X.sl, X.sh, X.lt, X.ty, X.pl, X.nu, X.od, X.tt, X.oo, X.on, X.wn, X.pd, X.li, X.rr, X.rn, X.dr) : ModN) K) rfl rfl rfl ?_
              refine ev_iinc_n (x := k) (v := 1) dX7_tabulates_98 rfl (by decide) ?_
              refine ev_eq (lv' := [(1, .int (nI (k + 1))), (3, .int (nI (5))), (2, .int (nI (b01 (dsj F.st k F.ca = true ∧ mayTo F k 5 = true)))), (0, .ref 0)]) rfl rfl rfl ?_
              refine ev_b bX7_tabulates_101_6 (lv' := [(1, .int (nI (k + 1))), (3, .int (nI (5))), (2, .int (nI (b01 (dsj F.st k F.ca = true ∧ mayTo F k 5 = true)))), (0, .ref 0)]) (st' := []) (w2 := modW 0 ((F.bd, F.st, F.pr, F.ow, kd, fg, F.rs, F.ca, F.ac) : SaleN) ((X.rf, up wo k (((rbTo F.rs (itTo F.st k F.ca) 6 + prTo F.pr k F.ca : Nat) : Int)), up ta k (tkZ F k), (owF F), X.sl, X.sh, X.lt, X.ty, X.pl, X.nu, X.od, X.tt, X.oo, X.on, X.wn, X.pd, X.li, X.rr, X.rn, X.dr) : ModN) K) rfl ?_
              refine ev_pick (lv' := [(1, .int (nI (k + 1))), (0, .ref 0)]) rfl ?_
              rw [show nI (k + 1) = nI ((k + 1)) from congrArg nI (by omega)]
              exact ih6 (k + 1) (by omega) _ _ (tab_up hinv6 (by first | exact tab_no (by omega) h79 | exact tab_yes h79 | exact absurd h79 h50))
          | succ j_ ih44 =>
            intro q hk44  
            have hlt44 : q < 5 := by omega
            refine ev_b bX7_tabulates_44_46 (lv' := [(3, .int (nI (q))), (2, .int (nI (b01 (dsj F.st k F.ca = true ∧ mayTo F k q = true)))), (0, .ref 0), (1, .int (nI (k)))]) (st' := [.int (nI (5)), .int (nI (q))]) (w2 := modW 0 ((F.bd, F.st, F.pr, F.ow, kd, fg, F.rs, F.ca, F.ac) : SaleN) ((X.rf, wo, up ta k (tkZ F k), (owF F), X.sl, X.sh, X.lt, X.ty, X.pl, X.nu, X.od, X.tt, X.oo, X.on, X.wn, X.pd, X.li, X.rr, X.rn, X.dr) : ModN) K) rfl ?_
            refine ev_icmp_ge_n (tgt := 73) (by omega) (by decide) dX7_tabulates_46 (by decide) (fun h46 => (by exfalso; omega)) (fun h46 => ?_)
            refine ev_b bX7_tabulates_49_50 (lv' := [(3, .int (nI (q))), (2, .int (nI (b01 (dsj F.st k F.ca = true ∧ mayTo F k q = true)))), (0, .ref 0), (1, .int (nI (k)))]) (st' := [.int (nI (b01 (dsj F.st k F.ca = true ∧ mayTo F k q = true)))]) (w2 := modW 0 ((F.bd, F.st, F.pr, F.ow, kd, fg, F.rs, F.ca, F.ac) : SaleN) ((X.rf, wo, up ta k (tkZ F k), (owF F), X.sl, X.sh, X.lt, X.ty, X.pl, X.nu, X.od, X.tt, X.oo, X.on, X.wn, X.pd, X.li, X.rr, X.rn, X.dr) : ModN) K) rfl ?_
            refine ev_ifeq_b (tgt := 73) dX7_tabulates_50 (by decide) (fun h50 => ?_) (fun h50 => ?_)
            · skip
              refine ev_b bX7_tabulates_73_79 (lv' := [(3, .int (nI (q))), (2, .int (nI (b01 (dsj F.st k F.ca = true ∧ mayTo F k q = true)))), (0, .ref 0), (1, .int (nI (k)))]) (st' := [.int (nI (b01 (dsj F.st k F.ca = true ∧ mayTo F k q = true))), .int (nI (k)), .ref 8]) (w2 := modW 0 ((F.bd, F.st, F.pr, F.ow, kd, fg, F.rs, F.ca, F.ac) : SaleN) ((X.rf, wo, up ta k (tkZ F k), (owF F), X.sl, X.sh, X.lt, X.ty, X.pl, X.nu, X.od, X.tt, X.oo, X.on, X.wn, X.pd, X.li, X.rr, X.rn, X.dr) : ModN) K) rfl ?_
              refine ev_ifeq_b (tgt := 96) dX7_tabulates_79 (by decide) (fun h79 => ?_) (fun h79 => ?_)
              · skip
                refine ev_b bX7_tabulates_96_97 (lv' := [(3, .int (nI (q))), (2, .int (nI (b01 (dsj F.st k F.ca = true ∧ mayTo F k q = true)))), (0, .ref 0), (1, .int (nI (k)))]) (st' := [.int (-1), .int (nI (k)), .ref 8]) (w2 := modW 0 ((F.bd, F.st, F.pr, F.ow, kd, fg, F.rs, F.ca, F.ac) : SaleN) ((X.rf, wo, up ta k (tkZ F k), (owF F), X.sl, X.sh, X.lt, X.ty, X.pl, X.nu, X.od, X.tt, X.oo, X.on, X.wn, X.pd, X.li, X.rr, X.rn, X.dr) : ModN) K) rfl ?_
                refine ev_top (y := zI (-1)) (by decide) ?_
                refine ev_iast_z (f := wo) dX7_tabulates_97 rfl (by omega) (by decide) ?_
                refine ev_eq (w' := modW 0 ((F.bd, F.st, F.pr, F.ow, kd, fg, F.rs, F.ca, F.ac) : SaleN) ((X.rf, up wo k (-1), up ta k (tkZ F k), (owF F), X.sl, X.sh, X.lt, X.ty, X.pl, X.nu, X.od, X.tt, X.oo, X.on, X.wn, X.pd, X.li, X.rr, X.rn, X.dr) : ModN) K) rfl rfl rfl ?_
                refine ev_iinc_n (x := k) (v := 1) dX7_tabulates_98 rfl (by decide) ?_
                refine ev_eq (lv' := [(1, .int (nI (k + 1))), (3, .int (nI (q))), (2, .int (nI (b01 (dsj F.st k F.ca = true ∧ mayTo F k q = true)))), (0, .ref 0)]) rfl rfl rfl ?_
                refine ev_b bX7_tabulates_101_6 (lv' := [(1, .int (nI (k + 1))), (3, .int (nI (q))), (2, .int (nI (b01 (dsj F.st k F.ca = true ∧ mayTo F k q = true)))), (0, .ref 0)]) (st' := []) (w2 := modW 0 ((F.bd, F.st, F.pr, F.ow, kd, fg, F.rs, F.ca, F.ac) : SaleN) ((X.rf, up wo k (-1), up ta k (tkZ F k), (owF F), X.sl, X.sh, X.lt, X.ty, X.pl, X.nu, X.od, X.tt, X.oo, X.on, X.wn, X.pd, X.li, X.rr, X.rn, X.dr) : ModN) K) rfl ?_
                refine ev_pick (lv' := [(1, .int (nI (k + 1))), (0, .ref 0)]) rfl ?_
                rw [show nI (k + 1) = nI ((k + 1)) from congrArg nI (by omega)]
                exact ih6 (k + 1) (by omega) _ _ (tab_up hinv6 (by first | exact tab_no (by omega) h79 | exact tab_yes h79 | exact absurd h79 h50))
              · skip
                refine ev_b bX7_tabulates_82_89 (lv' := [(3, .int (nI (q))), (2, .int (nI (b01 (dsj F.st k F.ca = true ∧ mayTo F k q = true)))), (0, .ref 0), (1, .int (nI (k)))]) (st' := [.int (nI (k)), .ref 9, .int (nI (k)), .ref 0, .int (nI (k)), .ref 8]) (w2 := modW 0 ((F.bd, F.st, F.pr, F.ow, kd, fg, F.rs, F.ca, F.ac) : SaleN) ((X.rf, wo, up ta k (tkZ F k), (owF F), X.sl, X.sh, X.lt, X.ty, X.pl, X.nu, X.od, X.tt, X.oo, X.on, X.wn, X.pd, X.li, X.rr, X.rn, X.dr) : ModN) K) rfl ?_
                refine ev_iald_z (f := up ta k (tkZ F k)) dX7_tabulates_89 rfl (by omega) (by decide) ?_
                refine ev_top (y := (nI (itTo F.st k F.ca))) (by rw [show (up ta k (tkZ F k)) k = ((itTo F.st k F.ca : Nat) : Int) from by rw [up_at]; exact if_pos h79.1]; exact zI_nat _) ?_
                refine ev_callM (Yc := mX7_worthOf) (st := [.int (nI (k)), .ref 8]) dX7_tabulates_90 tw_1135 kX7_worthOf (m_X7_worthOf F kd fg ((X.rf, wo, up ta k (tkZ F k), (owF F), X.sl, X.sh, X.lt, X.ty, X.pl, X.nu, X.od, X.tt, X.oo, X.on, X.wn, X.pd, X.li, X.rr, X.rn, X.dr) : ModN) K k (itTo F.st k F.ca) hF (by omega) (by omega)) rfl rfl rfl rfl (by decide) (Nat.le_of_ble_eq_true rfl) (Nat.le_refl _) (Nat.le_refl _) (fun r w' h => by obtain ⟨-, rfl⟩ := h; exact mod_eq) ?_
                rintro _ _ ⟨rfl, rfl⟩
                refine ev_eq (lv' := [(3, .int (nI (q))), (2, .int (nI (b01 (dsj F.st k F.ca = true ∧ mayTo F k q = true)))), (0, .ref 0), (1, .int (nI (k)))]) (st' := [.int (nI (rbTo F.rs (itTo F.st k F.ca) 6 + prTo F.pr k F.ca)), .int (nI (k)), .ref 8]) (w' := modW 0 ((F.bd, F.st, F.pr, F.ow, kd, fg, F.rs, F.ca, F.ac) : SaleN) ((X.rf, wo, up ta k (tkZ F k), (owF F), X.sl, X.sh, X.lt, X.ty, X.pl, X.nu, X.od, X.tt, X.oo, X.on, X.wn, X.pd, X.li, X.rr, X.rn, X.dr) : ModN) K) rfl rfl rfl ?_
                refine ev_b bX7_tabulates_93_97 (lv' := [(3, .int (nI (q))), (2, .int (nI (b01 (dsj F.st k F.ca = true ∧ mayTo F k q = true)))), (0, .ref 0), (1, .int (nI (k)))]) (st' := [.int (nI (rbTo F.rs (itTo F.st k F.ca) 6 + prTo F.pr k F.ca)), .int (nI (k)), .ref 8]) (w2 := modW 0 ((F.bd, F.st, F.pr, F.ow, kd, fg, F.rs, F.ca, F.ac) : SaleN) ((X.rf, wo, up ta k (tkZ F k), (owF F), X.sl, X.sh, X.lt, X.ty, X.pl, X.nu, X.od, X.tt, X.oo, X.on, X.wn, X.pd, X.li, X.rr, X.rn, X.dr) : ModN) K) rfl ?_
                refine ev_top (y := zI (((rbTo F.rs (itTo F.st k F.ca) 6 + prTo F.pr k F.ca : Nat) : Int))) (zI_nat _).symm ?_
                refine ev_iast_z (f := wo) dX7_tabulates_97 rfl (by omega) (by decide) ?_
                refine ev_eq (w' := modW 0 ((F.bd, F.st, F.pr, F.ow, kd, fg, F.rs, F.ca, F.ac) : SaleN) ((X.rf, up wo k (((rbTo F.rs (itTo F.st k F.ca) 6 + prTo F.pr k F.ca : Nat) : Int)), up ta k (tkZ F k), (owF F), X.sl, X.sh, X.lt, X.ty, X.pl, X.nu, X.od, X.tt, X.oo, X.on, X.wn, X.pd, X.li, X.rr, X.rn, X.dr) : ModN) K) rfl rfl rfl ?_
                refine ev_iinc_n (x := k) (v := 1) dX7_tabulates_98 rfl (by decide) ?_
                refine ev_eq (lv' := [(1, .int (nI (k + 1))), (3, .int (nI (q))), (2, .int (nI (b01 (dsj F.st k F.ca = true ∧ mayTo F k q = true)))), (0, .ref 0)]) rfl rfl rfl ?_
                refine ev_b bX7_tabulates_101_6 (lv' := [(1, .int (nI (k + 1))), (3, .int (nI (q))), (2, .int (nI (b01 (dsj F.st k F.ca = true ∧ mayTo F k q = true)))), (0, .ref 0)]) (st' := []) (w2 := modW 0 ((F.bd, F.st, F.pr, F.ow, kd, fg, F.rs, F.ca, F.ac) : SaleN) ((X.rf, up wo k (((rbTo F.rs (itTo F.st k F.ca) 6 + prTo F.pr k F.ca : Nat) : Int)), up ta k (tkZ F k), (owF F), X.sl, X.sh, X.lt, X.ty, X.pl, X.nu, X.od, X.tt, X.oo, X.on, X.wn, X.pd, X.li, X.rr, X.rn, X.dr) : ModN) K) rfl ?_
                refine ev_pick (lv' := [(1, .int (nI (k + 1))), (0, .ref 0)]) rfl ?_
                rw [show nI (k + 1) = nI ((k + 1)) from congrArg nI (by omega)]
                exact ih6 (k + 1) (by omega) _ _ (tab_up hinv6 (by first | exact tab_no (by omega) h79 | exact tab_yes h79 | exact absurd h79 h50))
            · skip
              refine ev_b bX7_tabulates_53_61 (lv' := [(3, .int (nI (q))), (2, .int (nI (b01 (dsj F.st k F.ca = true ∧ mayTo F k q = true)))), (0, .ref 0), (1, .int (nI (k)))]) (st' := [.int (nI (q)), .ref 10, .int (nI (k)), .int (nI (q)), .ref 0]) (w2 := modW 0 ((F.bd, F.st, F.pr, F.ow, kd, fg, F.rs, F.ca, F.ac) : SaleN) ((X.rf, wo, up ta k (tkZ F k), (owF F), X.sl, X.sh, X.lt, X.ty, X.pl, X.nu, X.od, X.tt, X.oo, X.on, X.wn, X.pd, X.li, X.rr, X.rn, X.dr) : ModN) K) rfl ?_
              refine ev_iald_n (f := (owF F)) dX7_tabulates_61 rfl (by omega) (by decide) ?_
              refine ev_iand_n dX7_tabulates_62 ?_
              refine ev_callM (Yc := mX7_mayWin) (st := []) dX7_tabulates_63 tw_1128 kX7_mayWin (m_X7_mayWin F kd fg ((X.rf, wo, up ta k (tkZ F k), (owF F), X.sl, X.sh, X.lt, X.ty, X.pl, X.nu, X.od, X.tt, X.oo, X.on, X.wn, X.pd, X.li, X.rr, X.rn, X.dr) : ModN) K q (k &&& owF F q) hF (by omega) (own_lt hF k q).1 (own_lt hF k q).2 hkf.1 (hkf.2 q (by omega))) rfl rfl rfl rfl (by decide) (Nat.le_of_ble_eq_true rfl) (Nat.le_refl _) (Nat.le_refl _) (fun r w' h => by obtain ⟨-, rfl⟩ := h; exact mod_eq) ?_
              rintro _ _ ⟨rfl, rfl⟩
              refine ev_eq (lv' := [(3, .int (nI (q))), (2, .int (nI (b01 (dsj F.st k F.ca = true ∧ mayTo F k q = true)))), (0, .ref 0), (1, .int (nI (k)))]) (st' := [.int (nI (b01 (mayP (F.kd q) (F.fg q) (pop (k &&& owF F q)) (prTo F.pr (k &&& owF F q) F.ca) (pop (itTo F.st (k &&& owF F q) F.ca)))))]) (w' := modW 0 ((F.bd, F.st, F.pr, F.ow, kd, fg, F.rs, F.ca, F.ac) : SaleN) ((X.rf, wo, up ta k (tkZ F k), (owF F), X.sl, X.sh, X.lt, X.ty, X.pl, X.nu, X.od, X.tt, X.oo, X.on, X.wn, X.pd, X.li, X.rr, X.rn, X.dr) : ModN) K) rfl rfl rfl ?_
              refine ev_b bX7_tabulates_66_67 (lv' := [(2, .int (nI (b01 (mayP (F.kd q) (F.fg q) (pop (k &&& owF F q)) (prTo F.pr (k &&& owF F q) F.ca) (pop (itTo F.st (k &&& owF F q) F.ca)))))), (3, .int (nI (q))), (0, .ref 0), (1, .int (nI (k)))]) (st' := []) (w2 := modW 0 ((F.bd, F.st, F.pr, F.ow, kd, fg, F.rs, F.ca, F.ac) : SaleN) ((X.rf, wo, up ta k (tkZ F k), (owF F), X.sl, X.sh, X.lt, X.ty, X.pl, X.nu, X.od, X.tt, X.oo, X.on, X.wn, X.pd, X.li, X.rr, X.rn, X.dr) : ModN) K) rfl ?_
              refine ev_iinc_n (x := q) (v := 1) dX7_tabulates_67 rfl (by decide) ?_
              refine ev_eq (lv' := [(3, .int (nI (q + 1))), (2, .int (nI (b01 (mayP (F.kd q) (F.fg q) (pop (k &&& owF F q)) (prTo F.pr (k &&& owF F q) F.ca) (pop (itTo F.st (k &&& owF F q) F.ca)))))), (0, .ref 0), (1, .int (nI (k)))]) rfl rfl rfl ?_
              refine ev_b bX7_tabulates_70_44 (lv' := [(3, .int (nI (q + 1))), (2, .int (nI (b01 (mayP (F.kd q) (F.fg q) (pop (k &&& owF F q)) (prTo F.pr (k &&& owF F q) F.ca) (pop (itTo F.st (k &&& owF F q) F.ca)))))), (0, .ref 0), (1, .int (nI (k)))]) (st' := []) (w2 := modW 0 ((F.bd, F.st, F.pr, F.ow, kd, fg, F.rs, F.ca, F.ac) : SaleN) ((X.rf, wo, up ta k (tkZ F k), (owF F), X.sl, X.sh, X.lt, X.ty, X.pl, X.nu, X.od, X.tt, X.oo, X.on, X.wn, X.pd, X.li, X.rr, X.rn, X.dr) : ModN) K) rfl ?_
              rw [show nI (q + 1) = nI ((q + 1)) from congrArg nI (by omega)]
              rw [show nI (b01 (mayP (F.kd q) (F.fg q) (pop (k &&& owF F q)) (prTo F.pr (k &&& owF F q) F.ca) (pop (itTo F.st (k &&& owF F q) F.ca)))) = nI (b01 (dsj F.st k F.ca = true ∧ mayTo F k (q + 1) = true)) from congrArg nI (by exact b01_c (tab_next hF hlt44 h50))]
              exact ih44 (q + 1) (by omega) 
        refine ev_pick (lv' := [(3, .int (nI (0))), (2, .int (nI (b01 (dsj F.st k F.ca = true)))), (0, .ref 0), (1, .int (nI (k)))]) rfl ?_
        rw [show nI (b01 (dsj F.st k F.ca = true)) = nI (b01 (dsj F.st k F.ca = true ∧ mayTo F k 0 = true)) from congrArg nI (by exact b01_c ⟨fun z => ⟨z, rfl⟩, fun z => z.1⟩)]
        exact L44 5 0 (by omega) 
      · skip
        refine ev_b bX7_tabulates_36_42 (lv' := [(2, .int (nI (1))), (1, .int (nI (k))), (0, .ref 0)]) (st' := []) (w2 := modW 0 ((F.bd, F.st, F.pr, F.ow, kd, fg, F.rs, F.ca, F.ac) : SaleN) ((X.rf, wo, up ta k (tkZ F k), (owF F), X.sl, X.sh, X.lt, X.ty, X.pl, X.nu, X.od, X.tt, X.oo, X.on, X.wn, X.pd, X.li, X.rr, X.rn, X.dr) : ModN) K) rfl ?_
        refine ev_eq (lv' := [(2, .int (nI (b01 (dsj F.st k F.ca = true)))), (1, .int (nI (k))), (0, .ref 0)]) (by rw [← bit_b01 (Decidable.of_not_not (fun z => h33 (by rw [show tkZ F k = -1 from if_neg z]; decide)))]) rfl rfl ?_
        refine ev_b bX7_tabulates_42_44 (lv' := [(3, .int (nI (0))), (2, .int (nI (b01 (dsj F.st k F.ca = true)))), (1, .int (nI (k))), (0, .ref 0)]) (st' := []) (w2 := modW 0 ((F.bd, F.st, F.pr, F.ow, kd, fg, F.rs, F.ca, F.ac) : SaleN) ((X.rf, wo, up ta k (tkZ F k), (owF F), X.sl, X.sh, X.lt, X.ty, X.pl, X.nu, X.od, X.tt, X.oo, X.on, X.wn, X.pd, X.li, X.rr, X.rn, X.dr) : ModN) K) rfl ?_
        have L44 : ∀ (j_ q : Nat), q + j_ = 5 → Ev l E mX7_tabulates (2) 0 0 (modW 0 ((F.bd, F.st, F.pr, F.ow, kd, fg, F.rs, F.ca, F.ac) : SaleN) X K) (fun r w' => r = none ∧ ∃ wo ta : Nat → Int, w' = modW 0 ((F.bd, F.st, F.pr, F.ow, kd, fg, F.rs, F.ca, F.ac) : SaleN) (tbX X wo ta (owF F)) K ∧ TabF F wo ta) 0 0 44 [(3, .int (nI (q))), (2, .int (nI (b01 (dsj F.st k F.ca = true ∧ mayTo F k q = true)))), (0, .ref 0), (1, .int (nI (k)))] [] (modW 0 ((F.bd, F.st, F.pr, F.ow, kd, fg, F.rs, F.ca, F.ac) : SaleN) ((X.rf, wo, up ta k (tkZ F k), (owF F), X.sl, X.sh, X.lt, X.ty, X.pl, X.nu, X.od, X.tt, X.oo, X.on, X.wn, X.pd, X.li, X.rr, X.rn, X.dr) : ModN) K) := by
          intro j_
          induction j_ with
          | zero =>
            intro q hk44  
            replace hk44 : q = 5 := hk44
            subst hk44
            refine ev_b bX7_tabulates_44_46 (lv' := [(3, .int (nI (5))), (2, .int (nI (b01 (dsj F.st k F.ca = true ∧ mayTo F k 5 = true)))), (0, .ref 0), (1, .int (nI (k)))]) (st' := [.int (nI (5)), .int (nI (5))]) (w2 := modW 0 ((F.bd, F.st, F.pr, F.ow, kd, fg, F.rs, F.ca, F.ac) : SaleN) ((X.rf, wo, up ta k (tkZ F k), (owF F), X.sl, X.sh, X.lt, X.ty, X.pl, X.nu, X.od, X.tt, X.oo, X.on, X.wn, X.pd, X.li, X.rr, X.rn, X.dr) : ModN) K) rfl ?_
            refine ev_icmp_ge_n (tgt := 73) (by decide) (by decide) dX7_tabulates_46 (by decide) (fun h46 => ?_) (fun h46 => (by exfalso; omega))
            refine ev_b bX7_tabulates_73_79 (lv' := [(3, .int (nI (5))), (2, .int (nI (b01 (dsj F.st k F.ca = true ∧ mayTo F k 5 = true)))), (0, .ref 0), (1, .int (nI (k)))]) (st' := [.int (nI (b01 (dsj F.st k F.ca = true ∧ mayTo F k 5 = true))), .int (nI (k)), .ref 8]) (w2 := modW 0 ((F.bd, F.st, F.pr, F.ow, kd, fg, F.rs, F.ca, F.ac) : SaleN) ((X.rf, wo, up ta k (tkZ F k), (owF F), X.sl, X.sh, X.lt, X.ty, X.pl, X.nu, X.od, X.tt, X.oo, X.on, X.wn, X.pd, X.li, X.rr, X.rn, X.dr) : ModN) K) rfl ?_
            refine ev_ifeq_b (tgt := 96) dX7_tabulates_79 (by decide) (fun h79 => ?_) (fun h79 => ?_)
            · skip
              refine ev_b bX7_tabulates_96_97 (lv' := [(3, .int (nI (5))), (2, .int (nI (b01 (dsj F.st k F.ca = true ∧ mayTo F k 5 = true)))), (0, .ref 0), (1, .int (nI (k)))]) (st' := [.int (-1), .int (nI (k)), .ref 8]) (w2 := modW 0 ((F.bd, F.st, F.pr, F.ow, kd, fg, F.rs, F.ca, F.ac) : SaleN) ((X.rf, wo, up ta k (tkZ F k), (owF F), X.sl, X.sh, X.lt, X.ty, X.pl, X.nu, X.od, X.tt, X.oo, X.on, X.wn, X.pd, X.li, X.rr, X.rn, X.dr) : ModN) K) rfl ?_
              refine ev_top (y := zI (-1)) (by decide) ?_
              refine ev_iast_z (f := wo) dX7_tabulates_97 rfl (by omega) (by decide) ?_
              refine ev_eq (w' := modW 0 ((F.bd, F.st, F.pr, F.ow, kd, fg, F.rs, F.ca, F.ac) : SaleN) ((X.rf, up wo k (-1), up ta k (tkZ F k), (owF F), X.sl, X.sh, X.lt, X.ty, X.pl, X.nu, X.od, X.tt, X.oo, X.on, X.wn, X.pd, X.li, X.rr, X.rn, X.dr) : ModN) K) rfl rfl rfl ?_
              refine ev_iinc_n (x := k) (v := 1) dX7_tabulates_98 rfl (by decide) ?_
              refine ev_eq (lv' := [(1, .int (nI (k + 1))), (3, .int (nI (5))), (2, .int (nI (b01 (dsj F.st k F.ca = true ∧ mayTo F k 5 = true)))), (0, .ref 0)]) rfl rfl rfl ?_
              refine ev_b bX7_tabulates_101_6 (lv' := [(1, .int (nI (k + 1))), (3, .int (nI (5))), (2, .int (nI (b01 (dsj F.st k F.ca = true ∧ mayTo F k 5 = true)))), (0, .ref 0)]) (st' := []) (w2 := modW 0 ((F.bd, F.st, F.pr, F.ow, kd, fg, F.rs, F.ca, F.ac) : SaleN) ((X.rf, up wo k (-1), up ta k (tkZ F k), (owF F), X.sl, X.sh, X.lt, X.ty, X.pl, X.nu, X.od, X.tt, X.oo, X.on, X.wn, X.pd, X.li, X.rr, X.rn, X.dr) : ModN) K) rfl ?_
              refine ev_pick (lv' := [(1, .int (nI (k + 1))), (0, .ref 0)]) rfl ?_
              rw [show nI (k + 1) = nI ((k + 1)) from congrArg nI (by omega)]
              exact ih6 (k + 1) (by omega) _ _ (tab_up hinv6 (by first | exact tab_no (by omega) h79 | exact tab_yes h79 | exact absurd h79 h50))
            · skip
              refine ev_b bX7_tabulates_82_89 (lv' := [(3, .int (nI (5))), (2, .int (nI (b01 (dsj F.st k F.ca = true ∧ mayTo F k 5 = true)))), (0, .ref 0), (1, .int (nI (k)))]) (st' := [.int (nI (k)), .ref 9, .int (nI (k)), .ref 0, .int (nI (k)), .ref 8]) (w2 := modW 0 ((F.bd, F.st, F.pr, F.ow, kd, fg, F.rs, F.ca, F.ac) : SaleN) ((X.rf, wo, up ta k (tkZ F k), (owF F), X.sl, X.sh, X.lt, X.ty, X.pl, X.nu, X.od, X.tt, X.oo, X.on, X.wn, X.pd, X.li, X.rr, X.rn, X.dr) : ModN) K) rfl ?_
              refine ev_iald_z (f := up ta k (tkZ F k)) dX7_tabulates_89 rfl (by omega) (by decide) ?_
              refine ev_top (y := (nI (itTo F.st k F.ca))) (by rw [show (up ta k (tkZ F k)) k = ((itTo F.st k F.ca : Nat) : Int) from by rw [up_at]; exact if_pos h79.1]; exact zI_nat _) ?_
              refine ev_callM (Yc := mX7_worthOf) (st := [.int (nI (k)), .ref 8]) dX7_tabulates_90 tw_1135 kX7_worthOf (m_X7_worthOf F kd fg ((X.rf, wo, up ta k (tkZ F k), (owF F), X.sl, X.sh, X.lt, X.ty, X.pl, X.nu, X.od, X.tt, X.oo, X.on, X.wn, X.pd, X.li, X.rr, X.rn, X.dr) : ModN) K k (itTo F.st k F.ca) hF (by omega) (by omega)) rfl rfl rfl rfl (by decide) (Nat.le_of_ble_eq_true rfl) (Nat.le_refl _) (Nat.le_refl _) (fun r w' h => by obtain ⟨-, rfl⟩ := h; exact mod_eq) ?_
              rintro _ _ ⟨rfl, rfl⟩
              refine ev_eq (lv' := [(3, .int (nI (5))), (2, .int (nI (b01 (dsj F.st k F.ca = true ∧ mayTo F k 5 = true)))), (0, .ref 0), (1, .int (nI (k)))]) (st' := [.int (nI (rbTo F.rs (itTo F.st k F.ca) 6 + prTo F.pr k F.ca)), .int (nI (k)), .ref 8]) (w' := modW 0 ((F.bd, F.st, F.pr, F.ow, kd, fg, F.rs, F.ca, F.ac) : SaleN) ((X.rf, wo, up ta k (tkZ F k), (owF F), X.sl, X.sh, X.lt, X.ty, X.pl, X.nu, X.od, X.tt, X.oo, X.on, X.wn, X.pd, X.li, X.rr, X.rn, X.dr) : ModN) K) rfl rfl rfl ?_
              refine ev_b bX7_tabulates_93_97 (lv' := [(3, .int (nI (5))), (2, .int (nI (b01 (dsj F.st k F.ca = true ∧ mayTo F k 5 = true)))), (0, .ref 0), (1, .int (nI (k)))]) (st' := [.int (nI (rbTo F.rs (itTo F.st k F.ca) 6 + prTo F.pr k F.ca)), .int (nI (k)), .ref 8]) (w2 := modW 0 ((F.bd, F.st, F.pr, F.ow, kd, fg, F.rs, F.ca, F.ac) : SaleN) ((X.rf, wo, up ta k (tkZ F k), (owF F), X.sl, X.sh, X.lt, X.ty, X.pl, X.nu, X.od, X.tt, X.oo, X.on, X.wn, X.pd, X.li, X.rr, X.rn, X.dr) : ModN) K) rfl ?_
              refine ev_top (y := zI (((rbTo F.rs (itTo F.st k F.ca) 6 + prTo F.pr k F.ca : Nat) : Int))) (zI_nat _).symm ?_
              refine ev_iast_z (f := wo) dX7_tabulates_97 rfl (by omega) (by decide) ?_
              refine ev_eq (w' := modW 0 ((F.bd, F.st, F.pr, F.ow, kd, fg, F.rs, F.ca, F.ac) : SaleN) ((X.rf, up wo k (((rbTo F.rs (itTo F.st k F.ca) 6 + prTo F.pr k F.ca : Nat) : Int)), up ta k (tkZ F k), (owF F), X.sl, X.sh, X.lt, X.ty, X.pl, X.nu, X.od, X.tt, X.oo, X.on, X.wn, X.pd, X.li, X.rr, X.rn, X.dr) : ModN) K) rfl rfl rfl ?_
              refine ev_iinc_n (x := k) (v := 1) dX7_tabulates_98 rfl (by decide) ?_
              refine ev_eq (lv' := [(1, .int (nI (k + 1))), (3, .int (nI (5))), (2, .int (nI (b01 (dsj F.st k F.ca = true ∧ mayTo F k 5 = true)))), (0, .ref 0)]) rfl rfl rfl ?_
              refine ev_b bX7_tabulates_101_6 (lv' := [(1, .int (nI (k + 1))), (3, .int (nI (5))), (2, .int (nI (b01 (dsj F.st k F.ca = true ∧ mayTo F k 5 = true)))), (0, .ref 0)]) (st' := []) (w2 := modW 0 ((F.bd, F.st, F.pr, F.ow, kd, fg, F.rs, F.ca, F.ac) : SaleN) ((X.rf, up wo k (((rbTo F.rs (itTo F.st k F.ca) 6 + prTo F.pr k F.ca : Nat) : Int)), up ta k (tkZ F k), (owF F), X.sl, X.sh, X.lt, X.ty, X.pl, X.nu, X.od, X.tt, X.oo, X.on, X.wn, X.pd, X.li, X.rr, X.rn, X.dr) : ModN) K) rfl ?_
              refine ev_pick (lv' := [(1, .int (nI (k + 1))), (0, .ref 0)]) rfl ?_
              rw [show nI (k + 1) = nI ((k + 1)) from congrArg nI (by omega)]
              exact ih6 (k + 1) (by omega) _ _ (tab_up hinv6 (by first | exact tab_no (by omega) h79 | exact tab_yes h79 | exact absurd h79 h50))
          | succ j_ ih44 =>
            intro q hk44  
            have hlt44 : q < 5 := by omega
            refine ev_b bX7_tabulates_44_46 (lv' := [(3, .int (nI (q))), (2, .int (nI (b01 (dsj F.st k F.ca = true ∧ mayTo F k q = true)))), (0, .ref 0), (1, .int (nI (k)))]) (st' := [.int (nI (5)), .int (nI (q))]) (w2 := modW 0 ((F.bd, F.st, F.pr, F.ow, kd, fg, F.rs, F.ca, F.ac) : SaleN) ((X.rf, wo, up ta k (tkZ F k), (owF F), X.sl, X.sh, X.lt, X.ty, X.pl, X.nu, X.od, X.tt, X.oo, X.on, X.wn, X.pd, X.li, X.rr, X.rn, X.dr) : ModN) K) rfl ?_
            refine ev_icmp_ge_n (tgt := 73) (by omega) (by decide) dX7_tabulates_46 (by decide) (fun h46 => (by exfalso; omega)) (fun h46 => ?_)
            refine ev_b bX7_tabulates_49_50 (lv' := [(3, .int (nI (q))), (2, .int (nI (b01 (dsj F.st k F.ca = true ∧ mayTo F k q = true)))), (0, .ref 0), (1, .int (nI (k)))]) (st' := [.int (nI (b01 (dsj F.st k F.ca = true ∧ mayTo F k q = true)))]) (w2 := modW 0 ((F.bd, F.st, F.pr, F.ow, kd, fg, F.rs, F.ca, F.ac) : SaleN) ((X.rf, wo, up ta k (tkZ F k), (owF F), X.sl, X.sh, X.lt, X.ty, X.pl, X.nu, X.od, X.tt, X.oo, X.on, X.wn, X.pd, X.li, X.rr, X.rn, X.dr) : ModN) K) rfl ?_
            refine ev_ifeq_b (tgt := 73) dX7_tabulates_50 (by decide) (fun h50 => ?_) (fun h50 => ?_)
            · skip
              refine ev_b bX7_tabulates_73_79 (lv' := [(3, .int (nI (q))), (2, .int (nI (b01 (dsj F.st k F.ca = true ∧ mayTo F k q = true)))), (0, .ref 0), (1, .int (nI (k)))]) (st' := [.int (nI (b01 (dsj F.st k F.ca = true ∧ mayTo F k q = true))), .int (nI (k)), .ref 8]) (w2 := modW 0 ((F.bd, F.st, F.pr, F.ow, kd, fg, F.rs, F.ca, F.ac) : SaleN) ((X.rf, wo, up ta k (tkZ F k), (owF F), X.sl, X.sh, X.lt, X.ty, X.pl, X.nu, X.od, X.tt, X.oo, X.on, X.wn, X.pd, X.li, X.rr, X.rn, X.dr) : ModN) K) rfl ?_
              refine ev_ifeq_b (tgt := 96) dX7_tabulates_79 (by decide) (fun h79 => ?_) (fun h79 => ?_)
              · skip
                refine ev_b bX7_tabulates_96_97 (lv' := [(3, .int (nI (q))), (2, .int (nI (b01 (dsj F.st k F.ca = true ∧ mayTo F k q = true)))), (0, .ref 0), (1, .int (nI (k)))]) (st' := [.int (-1), .int (nI (k)), .ref 8]) (w2 := modW 0 ((F.bd, F.st, F.pr, F.ow, kd, fg, F.rs, F.ca, F.ac) : SaleN) ((X.rf, wo, up ta k (tkZ F k), (owF F), X.sl, X.sh, X.lt, X.ty, X.pl, X.nu, X.od, X.tt, X.oo, X.on, X.wn, X.pd, X.li, X.rr, X.rn, X.dr) : ModN) K) rfl ?_
                refine ev_top (y := zI (-1)) (by decide) ?_
                refine ev_iast_z (f := wo) dX7_tabulates_97 rfl (by omega) (by decide) ?_
                refine ev_eq (w' := modW 0 ((F.bd, F.st, F.pr, F.ow, kd, fg, F.rs, F.ca, F.ac) : SaleN) ((X.rf, up wo k (-1), up ta k (tkZ F k), (owF F), X.sl, X.sh, X.lt, X.ty, X.pl, X.nu, X.od, X.tt, X.oo, X.on, X.wn, X.pd, X.li, X.rr, X.rn, X.dr) : ModN) K) rfl rfl rfl ?_
                refine ev_iinc_n (x := k) (v := 1) dX7_tabulates_98 rfl (by decide) ?_
                refine ev_eq (lv' := [(1, .int (nI (k + 1))), (3, .int (nI (q))), (2, .int (nI (b01 (dsj F.st k F.ca = true ∧ mayTo F k q = true)))), (0, .ref 0)]) rfl rfl rfl ?_
                refine ev_b bX7_tabulates_101_6 (lv' := [(1, .int (nI (k + 1))), (3, .int (nI (q))), (2, .int (nI (b01 (dsj F.st k F.ca = true ∧ mayTo F k q = true)))), (0, .ref 0)]) (st' := []) (w2 := modW 0 ((F.bd, F.st, F.pr, F.ow, kd, fg, F.rs, F.ca, F.ac) : SaleN) ((X.rf, up wo k (-1), up ta k (tkZ F k), (owF F), X.sl, X.sh, X.lt, X.ty, X.pl, X.nu, X.od, X.tt, X.oo, X.on, X.wn, X.pd, X.li, X.rr, X.rn, X.dr) : ModN) K) rfl ?_
                refine ev_pick (lv' := [(1, .int (nI (k + 1))), (0, .ref 0)]) rfl ?_
                rw [show nI (k + 1) = nI ((k + 1)) from congrArg nI (by omega)]
                exact ih6 (k + 1) (by omega) _ _ (tab_up hinv6 (by first | exact tab_no (by omega) h79 | exact tab_yes h79 | exact absurd h79 h50))
              · skip
                refine ev_b bX7_tabulates_82_89 (lv' := [(3, .int (nI (q))), (2, .int (nI (b01 (dsj F.st k F.ca = true ∧ mayTo F k q = true)))), (0, .ref 0), (1, .int (nI (k)))]) (st' := [.int (nI (k)), .ref 9, .int (nI (k)), .ref 0, .int (nI (k)), .ref 8]) (w2 := modW 0 ((F.bd, F.st, F.pr, F.ow, kd, fg, F.rs, F.ca, F.ac) : SaleN) ((X.rf, wo, up ta k (tkZ F k), (owF F), X.sl, X.sh, X.lt, X.ty, X.pl, X.nu, X.od, X.tt, X.oo, X.on, X.wn, X.pd, X.li, X.rr, X.rn, X.dr) : ModN) K) rfl ?_
                refine ev_iald_z (f := up ta k (tkZ F k)) dX7_tabulates_89 rfl (by omega) (by decide) ?_
                refine ev_top (y := (nI (itTo F.st k F.ca))) (by rw [show (up ta k (tkZ F k)) k = ((itTo F.st k F.ca : Nat) : Int) from by rw [up_at]; exact if_pos h79.1]; exact zI_nat _) ?_
                refine ev_callM (Yc := mX7_worthOf) (st := [.int (nI (k)), .ref 8]) dX7_tabulates_90 tw_1135 kX7_worthOf (m_X7_worthOf F kd fg ((X.rf, wo, up ta k (tkZ F k), (owF F), X.sl, X.sh, X.lt, X.ty, X.pl, X.nu, X.od, X.tt, X.oo, X.on, X.wn, X.pd, X.li, X.rr, X.rn, X.dr) : ModN) K k (itTo F.st k F.ca) hF (by omega) (by omega)) rfl rfl rfl rfl (by decide) (Nat.le_of_ble_eq_true rfl) (Nat.le_refl _) (Nat.le_refl _) (fun r w' h => by obtain ⟨-, rfl⟩ := h; exact mod_eq) ?_
                rintro _ _ ⟨rfl, rfl⟩
                refine ev_eq (lv' := [(3, .int (nI (q))), (2, .int (nI (b01 (dsj F.st k F.ca = true ∧ mayTo F k q = true)))), (0, .ref 0), (1, .int (nI (k)))]) (st' := [.int (nI (rbTo F.rs (itTo F.st k F.ca) 6 + prTo F.pr k F.ca)), .int (nI (k)), .ref 8]) (w' := modW 0 ((F.bd, F.st, F.pr, F.ow, kd, fg, F.rs, F.ca, F.ac) : SaleN) ((X.rf, wo, up ta k (tkZ F k), (owF F), X.sl, X.sh, X.lt, X.ty, X.pl, X.nu, X.od, X.tt, X.oo, X.on, X.wn, X.pd, X.li, X.rr, X.rn, X.dr) : ModN) K) rfl rfl rfl ?_
                refine ev_b bX7_tabulates_93_97 (lv' := [(3, .int (nI (q))), (2, .int (nI (b01 (dsj F.st k F.ca = true ∧ mayTo F k q = true)))), (0, .ref 0), (1, .int (nI (k)))]) (st' := [.int (nI (rbTo F.rs (itTo F.st k F.ca) 6 + prTo F.pr k F.ca)), .int (nI (k)), .ref 8]) (w2 := modW 0 ((F.bd, F.st, F.pr, F.ow, kd, fg, F.rs, F.ca, F.ac) : SaleN) ((X.rf, wo, up ta k (tkZ F k), (owF F), X.sl, X.sh, X.lt, X.ty, X.pl, X.nu, X.od, X.tt, X.oo, X.on, X.wn, X.pd, X.li, X.rr, X.rn, X.dr) : ModN) K) rfl ?_
                refine ev_top (y := zI (((rbTo F.rs (itTo F.st k F.ca) 6 + prTo F.pr k F.ca : Nat) : Int))) (zI_nat _).symm ?_
                refine ev_iast_z (f := wo) dX7_tabulates_97 rfl (by omega) (by decide) ?_
                refine ev_eq (w' := modW 0 ((F.bd, F.st, F.pr, F.ow, kd, fg, F.rs, F.ca, F.ac) : SaleN) ((X.rf, up wo k (((rbTo F.rs (itTo F.st k F.ca) 6 + prTo F.pr k F.ca : Nat) : Int)), up ta k (tkZ F k), (owF F), X.sl, X.sh, X.lt, X.ty, X.pl, X.nu, X.od, X.tt, X.oo, X.on, X.wn, X.pd, X.li, X.rr, X.rn, X.dr) : ModN) K) rfl rfl rfl ?_
                refine ev_iinc_n (x := k) (v := 1) dX7_tabulates_98 rfl (by decide) ?_
                refine ev_eq (lv' := [(1, .int (nI (k + 1))), (3, .int (nI (q))), (2, .int (nI (b01 (dsj F.st k F.ca = true ∧ mayTo F k q = true)))), (0, .ref 0)]) rfl rfl rfl ?_
                refine ev_b bX7_tabulates_101_6 (lv' := [(1, .int (nI (k + 1))), (3, .int (nI (q))), (2, .int (nI (b01 (dsj F.st k F.ca = true ∧ mayTo F k q = true)))), (0, .ref 0)]) (st' := []) (w2 := modW 0 ((F.bd, F.st, F.pr, F.ow, kd, fg, F.rs, F.ca, F.ac) : SaleN) ((X.rf, up wo k (((rbTo F.rs (itTo F.st k F.ca) 6 + prTo F.pr k F.ca : Nat) : Int)), up ta k (tkZ F k), (owF F), X.sl, X.sh, X.lt, X.ty, X.pl, X.nu, X.od, X.tt, X.oo, X.on, X.wn, X.pd, X.li, X.rr, X.rn, X.dr) : ModN) K) rfl ?_
                refine ev_pick (lv' := [(1, .int (nI (k + 1))), (0, .ref 0)]) rfl ?_
                rw [show nI (k + 1) = nI ((k + 1)) from congrArg nI (by omega)]
                exact ih6 (k + 1) (by omega) _ _ (tab_up hinv6 (by first | exact tab_no (by omega) h79 | exact tab_yes h79 | exact absurd h79 h50))
            · skip
              refine ev_b bX7_tabulates_53_61 (lv' := [(3, .int (nI (q))), (2, .int (nI (b01 (dsj F.st k F.ca = true ∧ mayTo F k q = true)))), (0, .ref 0), (1, .int (nI (k)))]) (st' := [.int (nI (q)), .ref 10, .int (nI (k)), .int (nI (q)), .ref 0]) (w2 := modW 0 ((F.bd, F.st, F.pr, F.ow, kd, fg, F.rs, F.ca, F.ac) : SaleN) ((X.rf, wo, up ta k (tkZ F k), (owF F), X.sl, X.sh, X.lt, X.ty, X.pl, X.nu, X.od, X.tt, X.oo, X.on, X.wn, X.pd, X.li, X.rr, X.rn, X.dr) : ModN) K) rfl ?_
              refine ev_iald_n (f := (owF F)) dX7_tabulates_61 rfl (by omega) (by decide) ?_
              refine ev_iand_n dX7_tabulates_62 ?_
              refine ev_callM (Yc := mX7_mayWin) (st := []) dX7_tabulates_63 tw_1128 kX7_mayWin (m_X7_mayWin F kd fg ((X.rf, wo, up ta k (tkZ F k), (owF F), X.sl, X.sh, X.lt, X.ty, X.pl, X.nu, X.od, X.tt, X.oo, X.on, X.wn, X.pd, X.li, X.rr, X.rn, X.dr) : ModN) K q (k &&& owF F q) hF (by omega) (own_lt hF k q).1 (own_lt hF k q).2 hkf.1 (hkf.2 q (by omega))) rfl rfl rfl rfl (by decide) (Nat.le_of_ble_eq_true rfl) (Nat.le_refl _) (Nat.le_refl _) (fun r w' h => by obtain ⟨-, rfl⟩ := h; exact mod_eq) ?_
              rintro _ _ ⟨rfl, rfl⟩
              refine ev_eq (lv' := [(3, .int (nI (q))), (2, .int (nI (b01 (dsj F.st k F.ca = true ∧ mayTo F k q = true)))), (0, .ref 0), (1, .int (nI (k)))]) (st' := [.int (nI (b01 (mayP (F.kd q) (F.fg q) (pop (k &&& owF F q)) (prTo F.pr (k &&& owF F q) F.ca) (pop (itTo F.st (k &&& owF F q) F.ca)))))]) (w' := modW 0 ((F.bd, F.st, F.pr, F.ow, kd, fg, F.rs, F.ca, F.ac) : SaleN) ((X.rf, wo, up ta k (tkZ F k), (owF F), X.sl, X.sh, X.lt, X.ty, X.pl, X.nu, X.od, X.tt, X.oo, X.on, X.wn, X.pd, X.li, X.rr, X.rn, X.dr) : ModN) K) rfl rfl rfl ?_
              refine ev_b bX7_tabulates_66_67 (lv' := [(2, .int (nI (b01 (mayP (F.kd q) (F.fg q) (pop (k &&& owF F q)) (prTo F.pr (k &&& owF F q) F.ca) (pop (itTo F.st (k &&& owF F q) F.ca)))))), (3, .int (nI (q))), (0, .ref 0), (1, .int (nI (k)))]) (st' := []) (w2 := modW 0 ((F.bd, F.st, F.pr, F.ow, kd, fg, F.rs, F.ca, F.ac) : SaleN) ((X.rf, wo, up ta k (tkZ F k), (owF F), X.sl, X.sh, X.lt, X.ty, X.pl, X.nu, X.od, X.tt, X.oo, X.on, X.wn, X.pd, X.li, X.rr, X.rn, X.dr) : ModN) K) rfl ?_
              refine ev_iinc_n (x := q) (v := 1) dX7_tabulates_67 rfl (by decide) ?_
              refine ev_eq (lv' := [(3, .int (nI (q + 1))), (2, .int (nI (b01 (mayP (F.kd q) (F.fg q) (pop (k &&& owF F q)) (prTo F.pr (k &&& owF F q) F.ca) (pop (itTo F.st (k &&& owF F q) F.ca)))))), (0, .ref 0), (1, .int (nI (k)))]) rfl rfl rfl ?_
              refine ev_b bX7_tabulates_70_44 (lv' := [(3, .int (nI (q + 1))), (2, .int (nI (b01 (mayP (F.kd q) (F.fg q) (pop (k &&& owF F q)) (prTo F.pr (k &&& owF F q) F.ca) (pop (itTo F.st (k &&& owF F q) F.ca)))))), (0, .ref 0), (1, .int (nI (k)))]) (st' := []) (w2 := modW 0 ((F.bd, F.st, F.pr, F.ow, kd, fg, F.rs, F.ca, F.ac) : SaleN) ((X.rf, wo, up ta k (tkZ F k), (owF F), X.sl, X.sh, X.lt, X.ty, X.pl, X.nu, X.od, X.tt, X.oo, X.on, X.wn, X.pd, X.li, X.rr, X.rn, X.dr) : ModN) K) rfl ?_
              rw [show nI (q + 1) = nI ((q + 1)) from congrArg nI (by omega)]
              rw [show nI (b01 (mayP (F.kd q) (F.fg q) (pop (k &&& owF F q)) (prTo F.pr (k &&& owF F q) F.ca) (pop (itTo F.st (k &&& owF F q) F.ca)))) = nI (b01 (dsj F.st k F.ca = true ∧ mayTo F k (q + 1) = true)) from congrArg nI (by exact b01_c (tab_next hF hlt44 h50))]
              exact ih44 (q + 1) (by omega) 
        refine ev_pick (lv' := [(3, .int (nI (0))), (2, .int (nI (b01 (dsj F.st k F.ca = true)))), (0, .ref 0), (1, .int (nI (k)))]) rfl ?_
        rw [show nI (b01 (dsj F.st k F.ca = true)) = nI (b01 (dsj F.st k F.ca = true ∧ mayTo F k 0 = true)) from congrArg nI (by exact b01_c ⟨fun z => ⟨z, rfl⟩, fun z => z.1⟩)]
        exact L44 5 0 (by omega) 
  exact L6 (1 <<< F.ca) 0 (by omega) X.wo X.ta (fun j hj => absurd hj (Nat.not_lt_zero j))
theorem bX7_table_0_4 {l : Launch} {E : XE} : Snd l E mX7_table 0 4 (xs [x_aload 0, x_get 8 12]) := Snd.cons (snd_aload_n (i := 0) dX7_table_0 rfl) (Snd.cons (snd_get (ci := 8) (k := 12) dX7_table_1 rfl inX7 (by decide) tw_926) Snd.nil)
theorem bX7_table_7_8 {l : Launch} {E : XE} : Snd l E mX7_table 7 8 (xs [x_aload 0]) := Snd.cons (snd_aload_n (i := 0) dX7_table_7 rfl) Snd.nil
set_option maxHeartbeats 4000000 in
set_option maxRecDepth 100000 in
theorem m_X7_table_g {l : Launch} {E : XE} (F : SaleN) (kd fg : Nat → Nat) (X : ModN) (K : Option (Nat → Nat)) (hF : SaleOK F) (hkf : KF F kd fg X.sh) (hC : Cch F X) : MetE l E mX7_table (3) 0 0 [.ref 0] (modW 0 ((F.bd, F.st, F.pr, F.ow, kd, fg, F.rs, F.ca, F.ac) : SaleN) X K) (fun r w' => r = none ∧ ∃ (wo ta : Nat → Int) (ow : Nat → Nat), w' = modW 0 ((F.bd, F.st, F.pr, F.ow, kd, fg, F.rs, F.ca, F.ac) : SaleN) (tbX X wo ta ow) K ∧ TabF F wo ta) := by
  refine MetE.of (by decide +kernel) (Nat.le_of_ble_eq_true rfl) ?_
  have hsl := hC.1
  refine ev_eq (lv' := [(0, .ref 0)]) (st' := []) (w' := modW 0 ((F.bd, F.st, F.pr, F.ow, kd, fg, F.rs, F.ca, F.ac) : SaleN) X K) rfl rfl rfl ?_
  refine ev_b bX7_table_0_4 (lv' := [(0, .ref 0)]) (st' := [.int (nI (X.sl))]) (w2 := modW 0 ((F.bd, F.st, F.pr, F.ow, kd, fg, F.rs, F.ca, F.ac) : SaleN) X K) rfl ?_
  refine ev_if_eq_n (tgt := 11) (by omega) dX7_table_4 (by decide) (fun h4 => ?_) (fun h4 => ?_)
  · skip
    exact ev_vret dX7_table_11 rfl mod_le (Nat.le_refl _) (Nat.le_refl _) (by first | exact ⟨rfl, wo, ta, owF F, rfl, hT⟩ | exact ⟨rfl, X.wo, X.ta, X.ow, by rw [tbX_same h4], hC.2 h4⟩)
  · skip
    refine ev_b bX7_table_7_8 (lv' := [(0, .ref 0)]) (st' := [.ref 0]) (w2 := modW 0 ((F.bd, F.st, F.pr, F.ow, kd, fg, F.rs, F.ca, F.ac) : SaleN) X K) rfl ?_
    refine ev_callM (Yc := mX7_tabulates) (st := []) dX7_table_8 tw_1116 kX7_tabulates (m_X7_tabulates F kd fg X K hF hkf) rfl rfl rfl rfl (by decide) (Nat.le_of_ble_eq_true rfl) (Nat.le_refl _) (Nat.le_refl _) (fun r w' h => by obtain ⟨-, wo, ta, rfl, -⟩ := h; exact mod_eq) ?_
    rintro _ _ ⟨rfl, wo, ta, rfl, hT⟩
    refine ev_eq (lv' := [(0, .ref 0)]) (st' := []) (w' := modW 0 ((F.bd, F.st, F.pr, F.ow, kd, fg, F.rs, F.ca, F.ac) : SaleN) ((X.rf, wo, ta, (owF F), 0, X.sh, X.lt, X.ty, X.pl, X.nu, X.od, X.tt, X.oo, X.on, X.wn, X.pd, X.li, X.rr, X.rn, X.dr) : ModN) K) rfl rfl rfl ?_
    exact ev_vret dX7_table_11 rfl mod_le (Nat.le_refl _) (Nat.le_refl _) (by first | exact ⟨rfl, wo, ta, owF F, rfl, hT⟩ | exact ⟨rfl, X.wo, X.ta, X.ow, by rw [tbX_same h4], hC.2 h4⟩)
set_option maxHeartbeats 4000000 in
set_option maxRecDepth 100000 in
theorem m_X7_table_t {l : Launch} {E : XE} (S : SaleN) (X : ModN) (K : Option (Nat → Nat)) (h0 : X.sl = 0) : MetE l E mX7_table (0) 0 0 [.ref 0] (modW 0 S X K) (fun r w' => r = none ∧ w' = modW 0 S X K) := by
  refine MetE.of (by decide +kernel) (Nat.le_of_ble_eq_true rfl) ?_
  refine ev_eq (lv' := [(0, .ref 0)]) (st' := []) (w' := modW 0 S X K) rfl rfl rfl ?_
  refine ev_b bX7_table_0_4 (lv' := [(0, .ref 0)]) (st' := [.int (nI (X.sl))]) (w2 := modW 0 S X K) rfl ?_
  refine ev_if_eq_n (tgt := 11) (by omega) dX7_table_4 (by decide) (fun h4 => ?_) (fun h4 => (by exfalso; omega))
  exact ev_vret dX7_table_11 rfl mod_le (Nat.le_refl _) (Nat.le_refl _) ⟨rfl, rfl⟩
theorem sub_and2 (a : Nat) : andn a a = 0 := by
  rw [andn_0]
  exact fun i hi => hi
theorem bX7_winnersOf_0_1 {l : Launch} {E : XE} : Snd l E mX7_winnersOf 0 1 (xs [x_aload 0]) := Snd.cons (snd_aload_n (i := 0) dX7_winnersOf_0 rfl) Snd.nil
theorem bX7_winnersOf_4_9 {l : Launch} {E : XE} : Snd l E mX7_winnersOf 4 9 (xs [x_iload 1, x_aload 0, x_get 8 7]) := Snd.cons (snd_iload_n (i := 1) dX7_winnersOf_4 rfl) (Snd.cons (snd_aload_n (i := 0) dX7_winnersOf_5 rfl) (Snd.cons (snd_get (ci := 8) (k := 7) dX7_winnersOf_6 rfl inX7 (by decide) tw_921) Snd.nil))
theorem bX7_winnersOf_10_16 {l : Launch} {E : XE} : Snd l E mX7_winnersOf 10 16 (xs [x_istore 2, x_push (.int (nI 0)), x_istore 3, x_iload 2, x_istore 4]) := Snd.cons (snd_istore_n (i := 2) dX7_winnersOf_10 rfl (by decide)) (Snd.cons (snd_iconst (v := nI 0) dX7_winnersOf_11 (by decide)) (Snd.cons (snd_istore_n (i := 3) dX7_winnersOf_12 rfl (by decide)) (Snd.cons (snd_iload_n (i := 2) dX7_winnersOf_13 rfl) (Snd.cons (snd_istore dX7_winnersOf_14 (by decide)) Snd.nil))))
theorem bX7_winnersOf_16_18 {l : Launch} {E : XE} : Snd l E mX7_winnersOf 16 18 (xs [x_iload 4]) := Snd.cons (snd_iload dX7_winnersOf_16) Snd.nil
theorem bX7_winnersOf_55_56 {l : Launch} {E : XE} : Snd l E mX7_winnersOf 55 56 (xs [x_iload 3]) := Snd.cons (snd_iload_n (i := 3) dX7_winnersOf_55 rfl) Snd.nil
theorem bX7_winnersOf_21_27 {l : Launch} {E : XE} : Snd l E mX7_winnersOf 21 27 (xs [x_aload 0, x_get 8 9, x_iload 4]) := Snd.cons (snd_aload_n (i := 0) dX7_winnersOf_21 rfl) (Snd.cons (snd_get (ci := 8) (k := 9) dX7_winnersOf_22 rfl inX7 (by decide) tw_923) (Snd.cons (snd_iload dX7_winnersOf_25) Snd.nil))
theorem bX7_winnersOf_44_47 {l : Launch} {E : XE} : Snd l E mX7_winnersOf 44 47 (xs [x_iload 4, x_push (.int (nI 1))]) := Snd.cons (snd_iload dX7_winnersOf_44) (Snd.cons (snd_iconst (v := nI 1) dX7_winnersOf_46 (by decide)) Snd.nil)
theorem bX7_winnersOf_48_49 {l : Launch} {E : XE} : Snd l E mX7_winnersOf 48 49 (xs [x_iload 2]) := Snd.cons (snd_iload_n (i := 2) dX7_winnersOf_48 rfl) Snd.nil
theorem bX7_winnersOf_50_16 {l : Launch} {E : XE} : Snd l E mX7_winnersOf 50 16 (xs [x_istore 4, x_id]) := Snd.cons (snd_istore dX7_winnersOf_50 (by decide)) (Snd.cons (snd_goto (tgt := 16) dX7_winnersOf_52 (by decide)) Snd.nil)
theorem bX7_winnersOf_31_35 {l : Launch} {E : XE} : Snd l E mX7_winnersOf 31 35 (xs [x_aload 0, x_iload 4, x_iload 3]) := Snd.cons (snd_aload_n (i := 0) dX7_winnersOf_31 rfl) (Snd.cons (snd_iload dX7_winnersOf_32) (Snd.cons (snd_iload_n (i := 3) dX7_winnersOf_34 rfl) Snd.nil))
theorem bX7_winnersOf_41_47 {l : Launch} {E : XE} : Snd l E mX7_winnersOf 41 47 (xs [x_iload 4, x_istore 3, x_iload 4, x_push (.int (nI 1))]) := Snd.cons (snd_iload dX7_winnersOf_41) (Snd.cons (snd_istore_n (i := 3) dX7_winnersOf_43 rfl (by decide)) (Snd.cons (snd_iload dX7_winnersOf_44) (Snd.cons (snd_iconst (v := nI 1) dX7_winnersOf_46 (by decide)) Snd.nil)))
set_option maxHeartbeats 4000000 in
set_option maxRecDepth 100000 in
theorem m_X7_winnersOf_g {l : Launch} {E : XE} (F : SaleN) (kd fg : Nat → Nat) (X : ModN) (K : Option (Nat → Nat)) (bits : Nat) (hF : SaleOK F) (hkf : KF F kd fg X.sh) (hC : Cch F X) (hm : bits < 2147483648) : MetE l E mX7_winnersOf (4) 0 0 [.ref 0, .int (nI (bits))] (modW 0 ((F.bd, F.st, F.pr, F.ow, kd, fg, F.rs, F.ca, F.ac) : SaleN) X K) (fun r w' => r = some (.int (nI (winB F bits))) ∧ ∃ (wo ta : Nat → Int) (ow : Nat → Nat), w' = modW 0 ((F.bd, F.st, F.pr, F.ow, kd, fg, F.rs, F.ca, F.ac) : SaleN) (tbX X wo ta ow) K ∧ TabF F wo ta) := by
  refine MetE.of (by decide +kernel) (Nat.le_of_ble_eq_true rfl) ?_
  have hca := hF.1
  have hshl := shl_le hF
  have hac := ac_lt hF
  have hac2 := hF.2.1
  have hpw := pow_ca hF
  refine ev_eq (lv' := [(0, .ref 0), (1, .int (nI (bits)))]) (st' := []) (w' := modW 0 ((F.bd, F.st, F.pr, F.ow, kd, fg, F.rs, F.ca, F.ac) : SaleN) X K) rfl rfl rfl ?_
  refine ev_b bX7_winnersOf_0_1 (lv' := [(0, .ref 0), (1, .int (nI (bits)))]) (st' := [.ref 0]) (w2 := modW 0 ((F.bd, F.st, F.pr, F.ow, kd, fg, F.rs, F.ca, F.ac) : SaleN) X K) rfl ?_
  refine ev_callM (Yc := mX7_table) (st := []) dX7_winnersOf_1 tw_1112 kX7_table (m_X7_table_g F kd fg X K hF hkf hC) rfl rfl rfl rfl (by decide) (Nat.le_of_ble_eq_true rfl) (Nat.le_refl _) (Nat.le_refl _) (fun r w' h => by obtain ⟨-, wo, ta, ow, rfl, -⟩ := h; exact mod_eq) ?_
  rintro _ _ ⟨rfl, wo, ta, ow, rfl, hT⟩
  refine ev_eq (lv' := [(0, .ref 0), (1, .int (nI (bits)))]) (st' := []) (w' := modW 0 ((F.bd, F.st, F.pr, F.ow, kd, fg, F.rs, F.ca, F.ac) : SaleN) ((X.rf, wo, ta, ow, 0, X.sh, X.lt, X.ty, X.pl, X.nu, X.od, X.tt, X.oo, X.on, X.wn, X.pd, X.li, X.rr, X.rn, X.dr) : ModN) K) rfl rfl rfl ?_
  refine ev_b bX7_winnersOf_4_9 (lv' := [(0, .ref 0), (1, .int (nI (bits)))]) (st' := [.int (nI (F.ac)), .int (nI (bits))]) (w2 := modW 0 ((F.bd, F.st, F.pr, F.ow, kd, fg, F.rs, F.ca, F.ac) : SaleN) ((X.rf, wo, ta, ow, 0, X.sh, X.lt, X.ty, X.pl, X.nu, X.od, X.tt, X.oo, X.on, X.wn, X.pd, X.li, X.rr, X.rn, X.dr) : ModN) K) rfl ?_
  refine ev_iand_n dX7_winnersOf_9 ?_
  refine ev_b bX7_winnersOf_10_16 (lv' := [(4, .int (nI (bits &&& F.ac))), (3, .int (nI (0))), (2, .int (nI (bits &&& F.ac))), (0, .ref 0), (1, .int (nI (bits)))]) (st' := []) (w2 := modW 0 ((F.bd, F.st, F.pr, F.ow, kd, fg, F.rs, F.ca, F.ac) : SaleN) ((X.rf, wo, ta, ow, 0, X.sh, X.lt, X.ty, X.pl, X.nu, X.od, X.tt, X.oo, X.on, X.wn, X.pd, X.li, X.rr, X.rn, X.dr) : ModN) K) rfl ?_
  have L16 : ∀ (j_ k : Nat), k + j_ = 1024 → ∀ (m best : Nat), (bestI F (bits &&& F.ac) m best ∧ andn m (bits &&& F.ac) = 0 ∧ m + k ≤ 1023) → Ev l E mX7_winnersOf (4) 0 0 (modW 0 ((F.bd, F.st, F.pr, F.ow, kd, fg, F.rs, F.ca, F.ac) : SaleN) X K) (fun r w' => r = some (.int (nI (winB F bits))) ∧ ∃ (wo ta : Nat → Int) (ow : Nat → Nat), w' = modW 0 ((F.bd, F.st, F.pr, F.ow, kd, fg, F.rs, F.ca, F.ac) : SaleN) (tbX X wo ta ow) K ∧ TabF F wo ta) 0 0 16 [(4, .int (nI (m))), (3, .int (nI (best))), (0, .ref 0), (1, .int (nI (bits))), (2, .int (nI (bits &&& F.ac)))] [] (modW 0 ((F.bd, F.st, F.pr, F.ow, kd, fg, F.rs, F.ca, F.ac) : SaleN) ((X.rf, wo, ta, ow, 0, X.sh, X.lt, X.ty, X.pl, X.nu, X.od, X.tt, X.oo, X.on, X.wn, X.pd, X.li, X.rr, X.rn, X.dr) : ModN) K) := by
    intro j_
    induction j_ with
    | zero =>
      intro k hk16 m best hinv16
      replace hk16 : k = 1024 := hk16
      exfalso; omega
    | succ j_ ih16 =>
      intro k hk16 m best hinv16
      have hlt16 : k < 1024 := by omega
      have hma := sub_r hinv16.2.1
      have hml := sub_lt hF hma
      have hbo := hinv16.1.1
      have hbl := outc_lt hF hbo
      have ewm := (hT m hml).1
      have ewb := (hT best (out_shl hbo)).1
      have hwm := wt_bnd hF m
      have hwb := wt_bnd hF best
      refine ev_b bX7_winnersOf_16_18 (lv' := [(4, .int (nI (m))), (3, .int (nI (best))), (0, .ref 0), (1, .int (nI (bits))), (2, .int (nI (bits &&& F.ac)))]) (st' := [.int (nI (m))]) (w2 := modW 0 ((F.bd, F.st, F.pr, F.ow, kd, fg, F.rs, F.ca, F.ac) : SaleN) ((X.rf, wo, ta, ow, 0, X.sh, X.lt, X.ty, X.pl, X.nu, X.od, X.tt, X.oo, X.on, X.wn, X.pd, X.li, X.rr, X.rn, X.dr) : ModN) K) rfl ?_
      refine ev_if_eq_n (tgt := 55) (by omega) dX7_winnersOf_18 (by decide) (fun h18 => ?_) (fun h18 => ?_)
      · skip
        refine ev_b bX7_winnersOf_55_56 (lv' := [(4, .int (nI (m))), (3, .int (nI (best))), (0, .ref 0), (1, .int (nI (bits))), (2, .int (nI (bits &&& F.ac)))]) (st' := [.int (nI (best))]) (w2 := modW 0 ((F.bd, F.st, F.pr, F.ow, kd, fg, F.rs, F.ca, F.ac) : SaleN) ((X.rf, wo, ta, ow, 0, X.sh, X.lt, X.ty, X.pl, X.nu, X.od, X.tt, X.oo, X.on, X.wn, X.pd, X.li, X.rr, X.rn, X.dr) : ModN) K) rfl ?_
        exact ev_iret dX7_winnersOf_56 rfl mod_le (Nat.le_refl _) (Nat.le_refl _) (by subst h18; exact ⟨by rw [(best_end hF hinv16.1).1], wo, ta, ow, rfl, hT⟩)
      · skip
        refine ev_b bX7_winnersOf_21_27 (lv' := [(4, .int (nI (m))), (3, .int (nI (best))), (0, .ref 0), (1, .int (nI (bits))), (2, .int (nI (bits &&& F.ac)))]) (st' := [.int (nI (m)), .ref 8]) (w2 := modW 0 ((F.bd, F.st, F.pr, F.ow, kd, fg, F.rs, F.ca, F.ac) : SaleN) ((X.rf, wo, ta, ow, 0, X.sh, X.lt, X.ty, X.pl, X.nu, X.od, X.tt, X.oo, X.on, X.wn, X.pd, X.li, X.rr, X.rn, X.dr) : ModN) K) rfl ?_
        refine ev_iald_z (f := wo) dX7_winnersOf_27 rfl (by omega) (by decide) ?_
        refine ev_if_lt_z (tgt := 44) (by constructor <;> (show _ ; omega)) dX7_winnersOf_28 (by decide) (fun h28 => ?_) (fun h28 => ?_)
        · skip
          have hnext := best_old hinv16.1 hinv16.2.1 (fun z => absurd ((out_iff hF hma).mp z) (by omega))
          refine ev_b bX7_winnersOf_44_47 (lv' := [(4, .int (nI (m))), (3, .int (nI (best))), (0, .ref 0), (1, .int (nI (bits))), (2, .int (nI (bits &&& F.ac)))]) (st' := [.int (nI (1)), .int (nI (m))]) (w2 := modW 0 ((F.bd, F.st, F.pr, F.ow, kd, fg, F.rs, F.ca, F.ac) : SaleN) ((X.rf, wo, ta, ow, 0, X.sh, X.lt, X.ty, X.pl, X.nu, X.od, X.tt, X.oo, X.on, X.wn, X.pd, X.li, X.rr, X.rn, X.dr) : ModN) K) rfl ?_
          refine ev_isub_n (by omega) dX7_winnersOf_47 ?_
          refine ev_b bX7_winnersOf_48_49 (lv' := [(4, .int (nI (m))), (3, .int (nI (best))), (0, .ref 0), (1, .int (nI (bits))), (2, .int (nI (bits &&& F.ac)))]) (st' := [.int (nI (bits &&& F.ac)), .int (nI (m - 1))]) (w2 := modW 0 ((F.bd, F.st, F.pr, F.ow, kd, fg, F.rs, F.ca, F.ac) : SaleN) ((X.rf, wo, ta, ow, 0, X.sh, X.lt, X.ty, X.pl, X.nu, X.od, X.tt, X.oo, X.on, X.wn, X.pd, X.li, X.rr, X.rn, X.dr) : ModN) K) rfl ?_
          refine ev_iand_n dX7_winnersOf_49 ?_
          refine ev_b bX7_winnersOf_50_16 (lv' := [(4, .int (nI ((m - 1) &&& (bits &&& F.ac)))), (3, .int (nI (best))), (0, .ref 0), (1, .int (nI (bits))), (2, .int (nI (bits &&& F.ac)))]) (st' := []) (w2 := modW 0 ((F.bd, F.st, F.pr, F.ow, kd, fg, F.rs, F.ca, F.ac) : SaleN) ((X.rf, wo, ta, ow, 0, X.sh, X.lt, X.ty, X.pl, X.nu, X.od, X.tt, X.oo, X.on, X.wn, X.pd, X.li, X.rr, X.rn, X.dr) : ModN) K) rfl ?_
          exact ih16 (k + 1) (by omega) _ _ ⟨hnext, sub_and _ _, by have := Nat.and_le_left (n := m - 1) (m := bits &&& F.ac); omega⟩
        · skip
          have hmo := (out_iff hF hma).mpr (by omega)
          have hak := ahead_key hF hmo hbo (ewm.trans (out_wt hmo)) (ewb.trans (out_wt hbo))
          refine ev_b bX7_winnersOf_31_35 (lv' := [(4, .int (nI (m))), (3, .int (nI (best))), (0, .ref 0), (1, .int (nI (bits))), (2, .int (nI (bits &&& F.ac)))]) (st' := [.int (nI (best)), .int (nI (m)), .ref 0]) (w2 := modW 0 ((F.bd, F.st, F.pr, F.ow, kd, fg, F.rs, F.ca, F.ac) : SaleN) ((X.rf, wo, ta, ow, 0, X.sh, X.lt, X.ty, X.pl, X.nu, X.od, X.tt, X.oo, X.on, X.wn, X.pd, X.li, X.rr, X.rn, X.dr) : ModN) K) rfl ?_
          refine ev_callM (Yc := mX7_isAhead) (st := []) dX7_winnersOf_35 tw_1139 kX7_isAhead (m_X7_isAhead ((F.bd, F.st, F.pr, F.ow, kd, fg, F.rs, F.ca, F.ac) : SaleN) ((X.rf, wo, ta, ow, 0, X.sh, X.lt, X.ty, X.pl, X.nu, X.od, X.tt, X.oo, X.on, X.wn, X.pd, X.li, X.rr, X.rn, X.dr) : ModN) K m best (by omega) (by omega) (by show -1 ≤ wo m ∧ wo m ≤ 5000; omega) (by show -1 ≤ wo best ∧ wo best ≤ 5000; omega)) rfl rfl rfl rfl (by decide) (Nat.le_of_ble_eq_true rfl) (Nat.le_refl _) (Nat.le_refl _) (fun r w' h => by obtain ⟨-, rfl⟩ := h; exact mod_eq) ?_
          rintro _ _ ⟨rfl, rfl⟩
          refine ev_eq (lv' := [(4, .int (nI (m))), (3, .int (nI (best))), (0, .ref 0), (1, .int (nI (bits))), (2, .int (nI (bits &&& F.ac)))]) (st' := [.int (nI (b01 (aheadZ wo m best)))]) (w' := modW 0 ((F.bd, F.st, F.pr, F.ow, kd, fg, F.rs, F.ca, F.ac) : SaleN) ((X.rf, wo, ta, ow, 0, X.sh, X.lt, X.ty, X.pl, X.nu, X.od, X.tt, X.oo, X.on, X.wn, X.pd, X.li, X.rr, X.rn, X.dr) : ModN) K) rfl rfl rfl ?_
          refine ev_ifeq_b (tgt := 44) dX7_winnersOf_38 (by decide) (fun h38 => ?_) (fun h38 => ?_)
          · skip
            have hnext := best_old hinv16.1 hinv16.2.1 (fun _ => Nat.not_lt.mp (fun z => h38 (hak.mpr z)))
            refine ev_b bX7_winnersOf_44_47 (lv' := [(4, .int (nI (m))), (3, .int (nI (best))), (0, .ref 0), (1, .int (nI (bits))), (2, .int (nI (bits &&& F.ac)))]) (st' := [.int (nI (1)), .int (nI (m))]) (w2 := modW 0 ((F.bd, F.st, F.pr, F.ow, kd, fg, F.rs, F.ca, F.ac) : SaleN) ((X.rf, wo, ta, ow, 0, X.sh, X.lt, X.ty, X.pl, X.nu, X.od, X.tt, X.oo, X.on, X.wn, X.pd, X.li, X.rr, X.rn, X.dr) : ModN) K) rfl ?_
            refine ev_isub_n (by omega) dX7_winnersOf_47 ?_
            refine ev_b bX7_winnersOf_48_49 (lv' := [(4, .int (nI (m))), (3, .int (nI (best))), (0, .ref 0), (1, .int (nI (bits))), (2, .int (nI (bits &&& F.ac)))]) (st' := [.int (nI (bits &&& F.ac)), .int (nI (m - 1))]) (w2 := modW 0 ((F.bd, F.st, F.pr, F.ow, kd, fg, F.rs, F.ca, F.ac) : SaleN) ((X.rf, wo, ta, ow, 0, X.sh, X.lt, X.ty, X.pl, X.nu, X.od, X.tt, X.oo, X.on, X.wn, X.pd, X.li, X.rr, X.rn, X.dr) : ModN) K) rfl ?_
            refine ev_iand_n dX7_winnersOf_49 ?_
            refine ev_b bX7_winnersOf_50_16 (lv' := [(4, .int (nI ((m - 1) &&& (bits &&& F.ac)))), (3, .int (nI (best))), (0, .ref 0), (1, .int (nI (bits))), (2, .int (nI (bits &&& F.ac)))]) (st' := []) (w2 := modW 0 ((F.bd, F.st, F.pr, F.ow, kd, fg, F.rs, F.ca, F.ac) : SaleN) ((X.rf, wo, ta, ow, 0, X.sh, X.lt, X.ty, X.pl, X.nu, X.od, X.tt, X.oo, X.on, X.wn, X.pd, X.li, X.rr, X.rn, X.dr) : ModN) K) rfl ?_
            exact ih16 (k + 1) (by omega) _ _ ⟨hnext, sub_and _ _, by have := Nat.and_le_left (n := m - 1) (m := bits &&& F.ac); omega⟩
          · skip
            have hnext := best_new hinv16.1 hinv16.2.1 hmo (hak.mp h38)
            refine ev_b bX7_winnersOf_41_47 (lv' := [(3, .int (nI (m))), (4, .int (nI (m))), (0, .ref 0), (1, .int (nI (bits))), (2, .int (nI (bits &&& F.ac)))]) (st' := [.int (nI (1)), .int (nI (m))]) (w2 := modW 0 ((F.bd, F.st, F.pr, F.ow, kd, fg, F.rs, F.ca, F.ac) : SaleN) ((X.rf, wo, ta, ow, 0, X.sh, X.lt, X.ty, X.pl, X.nu, X.od, X.tt, X.oo, X.on, X.wn, X.pd, X.li, X.rr, X.rn, X.dr) : ModN) K) rfl ?_
            refine ev_isub_n (by omega) dX7_winnersOf_47 ?_
            refine ev_b bX7_winnersOf_48_49 (lv' := [(3, .int (nI (m))), (4, .int (nI (m))), (0, .ref 0), (1, .int (nI (bits))), (2, .int (nI (bits &&& F.ac)))]) (st' := [.int (nI (bits &&& F.ac)), .int (nI (m - 1))]) (w2 := modW 0 ((F.bd, F.st, F.pr, F.ow, kd, fg, F.rs, F.ca, F.ac) : SaleN) ((X.rf, wo, ta, ow, 0, X.sh, X.lt, X.ty, X.pl, X.nu, X.od, X.tt, X.oo, X.on, X.wn, X.pd, X.li, X.rr, X.rn, X.dr) : ModN) K) rfl ?_
            refine ev_iand_n dX7_winnersOf_49 ?_
            refine ev_b bX7_winnersOf_50_16 (lv' := [(4, .int (nI ((m - 1) &&& (bits &&& F.ac)))), (3, .int (nI (m))), (0, .ref 0), (1, .int (nI (bits))), (2, .int (nI (bits &&& F.ac)))]) (st' := []) (w2 := modW 0 ((F.bd, F.st, F.pr, F.ow, kd, fg, F.rs, F.ca, F.ac) : SaleN) ((X.rf, wo, ta, ow, 0, X.sh, X.lt, X.ty, X.pl, X.nu, X.od, X.tt, X.oo, X.on, X.wn, X.pd, X.li, X.rr, X.rn, X.dr) : ModN) K) rfl ?_
            exact ih16 (k + 1) (by omega) _ _ ⟨hnext, sub_and _ _, by have := Nat.and_le_left (n := m - 1) (m := bits &&& F.ac); omega⟩
  refine ev_pick (lv' := [(4, .int (nI (bits &&& F.ac))), (3, .int (nI (0))), (0, .ref 0), (1, .int (nI (bits))), (2, .int (nI (bits &&& F.ac)))]) rfl ?_
  exact L16 1024 0 (by omega) (bits &&& F.ac) 0 ⟨best_start, sub_and2 _, by have := Nat.and_le_right (n := bits) (m := F.ac); omega⟩
set_option maxHeartbeats 4000000 in
set_option maxRecDepth 100000 in
theorem m_X7_winnersOf_t {l : Launch} {E : XE} (F : SaleN) (kd fg : Nat → Nat) (X : ModN) (K : Option (Nat → Nat)) (bits : Nat) (hF : SaleOK F) (h0 : X.sl = 0) (hT : TabF F X.wo X.ta) (hm : bits < 2147483648) : MetE l E mX7_winnersOf (2) 0 0 [.ref 0, .int (nI (bits))] (modW 0 ((F.bd, F.st, F.pr, F.ow, kd, fg, F.rs, F.ca, F.ac) : SaleN) X K) (fun r w' => r = some (.int (nI (winB F bits))) ∧ w' = modW 0 ((F.bd, F.st, F.pr, F.ow, kd, fg, F.rs, F.ca, F.ac) : SaleN) X K) := by
  refine MetE.of (by decide +kernel) (Nat.le_of_ble_eq_true rfl) ?_
  have hca := hF.1
  have hshl := shl_le hF
  have hac := ac_lt hF
  have hac2 := hF.2.1
  have hpw := pow_ca hF
  refine ev_eq (lv' := [(0, .ref 0), (1, .int (nI (bits)))]) (st' := []) (w' := modW 0 ((F.bd, F.st, F.pr, F.ow, kd, fg, F.rs, F.ca, F.ac) : SaleN) X K) rfl rfl rfl ?_
  refine ev_b bX7_winnersOf_0_1 (lv' := [(0, .ref 0), (1, .int (nI (bits)))]) (st' := [.ref 0]) (w2 := modW 0 ((F.bd, F.st, F.pr, F.ow, kd, fg, F.rs, F.ca, F.ac) : SaleN) X K) rfl ?_
  refine ev_callM (Yc := mX7_table) (st := []) dX7_winnersOf_1 tw_1112 kX7_table (m_X7_table_t ((F.bd, F.st, F.pr, F.ow, kd, fg, F.rs, F.ca, F.ac) : SaleN) X K h0) rfl rfl rfl rfl (by decide) (Nat.le_of_ble_eq_true rfl) (Nat.le_refl _) (Nat.le_refl _) (fun r w' h => by obtain ⟨-, rfl⟩ := h; exact mod_eq) ?_
  rintro _ _ ⟨rfl, rfl⟩
  refine ev_eq (lv' := [(0, .ref 0), (1, .int (nI (bits)))]) (st' := []) (w' := modW 0 ((F.bd, F.st, F.pr, F.ow, kd, fg, F.rs, F.ca, F.ac) : SaleN) X K) rfl rfl rfl ?_
  refine ev_b bX7_winnersOf_4_9 (lv' := [(0, .ref 0), (1, .int (nI (bits)))]) (st' := [.int (nI (F.ac)), .int (nI (bits))]) (w2 := modW 0 ((F.bd, F.st, F.pr, F.ow, kd, fg, F.rs, F.ca, F.ac) : SaleN) X K) rfl ?_
  refine ev_iand_n dX7_winnersOf_9 ?_
  refine ev_b bX7_winnersOf_10_16 (lv' := [(4, .int (nI (bits &&& F.ac))), (3, .int (nI (0))), (2, .int (nI (bits &&& F.ac))), (0, .ref 0), (1, .int (nI (bits)))]) (st' := []) (w2 := modW 0 ((F.bd, F.st, F.pr, F.ow, kd, fg, F.rs, F.ca, F.ac) : SaleN) X K) rfl ?_
  have L16 : ∀ (j_ k : Nat), k + j_ = 1024 → ∀ (m best : Nat), (bestI F (bits &&& F.ac) m best ∧ andn m (bits &&& F.ac) = 0 ∧ m + k ≤ 1023) → Ev l E mX7_winnersOf (2) 0 0 (modW 0 ((F.bd, F.st, F.pr, F.ow, kd, fg, F.rs, F.ca, F.ac) : SaleN) X K) (fun r w' => r = some (.int (nI (winB F bits))) ∧ w' = modW 0 ((F.bd, F.st, F.pr, F.ow, kd, fg, F.rs, F.ca, F.ac) : SaleN) X K) 0 0 16 [(4, .int (nI (m))), (3, .int (nI (best))), (0, .ref 0), (1, .int (nI (bits))), (2, .int (nI (bits &&& F.ac)))] [] (modW 0 ((F.bd, F.st, F.pr, F.ow, kd, fg, F.rs, F.ca, F.ac) : SaleN) X K) := by
    intro j_
    induction j_ with
    | zero =>
      intro k hk16 m best hinv16
      replace hk16 : k = 1024 := hk16
      exfalso; omega
    | succ j_ ih16 =>
      intro k hk16 m best hinv16
      have hlt16 : k < 1024 := by omega
      have hma := sub_r hinv16.2.1
      have hml := sub_lt hF hma
      have hbo := hinv16.1.1
      have hbl := outc_lt hF hbo
      have ewm := (hT m hml).1
      have ewb := (hT best (out_shl hbo)).1
      have hwm := wt_bnd hF m
      have hwb := wt_bnd hF best
      refine ev_b bX7_winnersOf_16_18 (lv' := [(4, .int (nI (m))), (3, .int (nI (best))), (0, .ref 0), (1, .int (nI (bits))), (2, .int (nI (bits &&& F.ac)))]) (st' := [.int (nI (m))]) (w2 := modW 0 ((F.bd, F.st, F.pr, F.ow, kd, fg, F.rs, F.ca, F.ac) : SaleN) X K) rfl ?_
      refine ev_if_eq_n (tgt := 55) (by omega) dX7_winnersOf_18 (by decide) (fun h18 => ?_) (fun h18 => ?_)
      · skip
        refine ev_b bX7_winnersOf_55_56 (lv' := [(4, .int (nI (m))), (3, .int (nI (best))), (0, .ref 0), (1, .int (nI (bits))), (2, .int (nI (bits &&& F.ac)))]) (st' := [.int (nI (best))]) (w2 := modW 0 ((F.bd, F.st, F.pr, F.ow, kd, fg, F.rs, F.ca, F.ac) : SaleN) X K) rfl ?_
        exact ev_iret dX7_winnersOf_56 rfl mod_le (Nat.le_refl _) (Nat.le_refl _) ⟨(congrArg (fun t => some (Value.int (nI t))) (show best = winB F bits from by subst h18; exact (best_end hF hinv16.1).1.symm)), rfl⟩
      · skip
        refine ev_b bX7_winnersOf_21_27 (lv' := [(4, .int (nI (m))), (3, .int (nI (best))), (0, .ref 0), (1, .int (nI (bits))), (2, .int (nI (bits &&& F.ac)))]) (st' := [.int (nI (m)), .ref 8]) (w2 := modW 0 ((F.bd, F.st, F.pr, F.ow, kd, fg, F.rs, F.ca, F.ac) : SaleN) X K) rfl ?_
        refine ev_iald_z (f := X.wo) dX7_winnersOf_27 rfl (by omega) (by decide) ?_
        refine ev_if_lt_z (tgt := 44) (by constructor <;> (show _ ; omega)) dX7_winnersOf_28 (by decide) (fun h28 => ?_) (fun h28 => ?_)
        · skip
          have hnext := best_old hinv16.1 hinv16.2.1 (fun z => absurd ((out_iff hF hma).mp z) (by omega))
          refine ev_b bX7_winnersOf_44_47 (lv' := [(4, .int (nI (m))), (3, .int (nI (best))), (0, .ref 0), (1, .int (nI (bits))), (2, .int (nI (bits &&& F.ac)))]) (st' := [.int (nI (1)), .int (nI (m))]) (w2 := modW 0 ((F.bd, F.st, F.pr, F.ow, kd, fg, F.rs, F.ca, F.ac) : SaleN) X K) rfl ?_
          refine ev_isub_n (by omega) dX7_winnersOf_47 ?_
          refine ev_b bX7_winnersOf_48_49 (lv' := [(4, .int (nI (m))), (3, .int (nI (best))), (0, .ref 0), (1, .int (nI (bits))), (2, .int (nI (bits &&& F.ac)))]) (st' := [.int (nI (bits &&& F.ac)), .int (nI (m - 1))]) (w2 := modW 0 ((F.bd, F.st, F.pr, F.ow, kd, fg, F.rs, F.ca, F.ac) : SaleN) X K) rfl ?_
          refine ev_iand_n dX7_winnersOf_49 ?_
          refine ev_b bX7_winnersOf_50_16 (lv' := [(4, .int (nI ((m - 1) &&& (bits &&& F.ac)))), (3, .int (nI (best))), (0, .ref 0), (1, .int (nI (bits))), (2, .int (nI (bits &&& F.ac)))]) (st' := []) (w2 := modW 0 ((F.bd, F.st, F.pr, F.ow, kd, fg, F.rs, F.ca, F.ac) : SaleN) X K) rfl ?_
          exact ih16 (k + 1) (by omega) _ _ ⟨hnext, sub_and _ _, by have := Nat.and_le_left (n := m - 1) (m := bits &&& F.ac); omega⟩
        · skip
          have hmo := (out_iff hF hma).mpr (by omega)
          have hak := ahead_key hF hmo hbo (ewm.trans (out_wt hmo)) (ewb.trans (out_wt hbo))
          refine ev_b bX7_winnersOf_31_35 (lv' := [(4, .int (nI (m))), (3, .int (nI (best))), (0, .ref 0), (1, .int (nI (bits))), (2, .int (nI (bits &&& F.ac)))]) (st' := [.int (nI (best)), .int (nI (m)), .ref 0]) (w2 := modW 0 ((F.bd, F.st, F.pr, F.ow, kd, fg, F.rs, F.ca, F.ac) : SaleN) X K) rfl ?_
          refine ev_callM (Yc := mX7_isAhead) (st := []) dX7_winnersOf_35 tw_1139 kX7_isAhead (m_X7_isAhead ((F.bd, F.st, F.pr, F.ow, kd, fg, F.rs, F.ca, F.ac) : SaleN) X K m best (by omega) (by omega) (by show -1 ≤ X.wo m ∧ X.wo m ≤ 5000; omega) (by show -1 ≤ X.wo best ∧ X.wo best ≤ 5000; omega)) rfl rfl rfl rfl (by decide) (Nat.le_of_ble_eq_true rfl) (Nat.le_refl _) (Nat.le_refl _) (fun r w' h => by obtain ⟨-, rfl⟩ := h; exact mod_eq) ?_
          rintro _ _ ⟨rfl, rfl⟩
          refine ev_eq (lv' := [(4, .int (nI (m))), (3, .int (nI (best))), (0, .ref 0), (1, .int (nI (bits))), (2, .int (nI (bits &&& F.ac)))]) (st' := [.int (nI (b01 (aheadZ X.wo m best)))]) (w' := modW 0 ((F.bd, F.st, F.pr, F.ow, kd, fg, F.rs, F.ca, F.ac) : SaleN) X K) rfl rfl rfl ?_
          refine ev_ifeq_b (tgt := 44) dX7_winnersOf_38 (by decide) (fun h38 => ?_) (fun h38 => ?_)
          · skip
            have hnext := best_old hinv16.1 hinv16.2.1 (fun _ => Nat.not_lt.mp (fun z => h38 (hak.mpr z)))
            refine ev_b bX7_winnersOf_44_47 (lv' := [(4, .int (nI (m))), (3, .int (nI (best))), (0, .ref 0), (1, .int (nI (bits))), (2, .int (nI (bits &&& F.ac)))]) (st' := [.int (nI (1)), .int (nI (m))]) (w2 := modW 0 ((F.bd, F.st, F.pr, F.ow, kd, fg, F.rs, F.ca, F.ac) : SaleN) X K) rfl ?_
            refine ev_isub_n (by omega) dX7_winnersOf_47 ?_
            refine ev_b bX7_winnersOf_48_49 (lv' := [(4, .int (nI (m))), (3, .int (nI (best))), (0, .ref 0), (1, .int (nI (bits))), (2, .int (nI (bits &&& F.ac)))]) (st' := [.int (nI (bits &&& F.ac)), .int (nI (m - 1))]) (w2 := modW 0 ((F.bd, F.st, F.pr, F.ow, kd, fg, F.rs, F.ca, F.ac) : SaleN) X K) rfl ?_
            refine ev_iand_n dX7_winnersOf_49 ?_
            refine ev_b bX7_winnersOf_50_16 (lv' := [(4, .int (nI ((m - 1) &&& (bits &&& F.ac)))), (3, .int (nI (best))), (0, .ref 0), (1, .int (nI (bits))), (2, .int (nI (bits &&& F.ac)))]) (st' := []) (w2 := modW 0 ((F.bd, F.st, F.pr, F.ow, kd, fg, F.rs, F.ca, F.ac) : SaleN) X K) rfl ?_
            exact ih16 (k + 1) (by omega) _ _ ⟨hnext, sub_and _ _, by have := Nat.and_le_left (n := m - 1) (m := bits &&& F.ac); omega⟩
          · skip
            have hnext := best_new hinv16.1 hinv16.2.1 hmo (hak.mp h38)
            refine ev_b bX7_winnersOf_41_47 (lv' := [(3, .int (nI (m))), (4, .int (nI (m))), (0, .ref 0), (1, .int (nI (bits))), (2, .int (nI (bits &&& F.ac)))]) (st' := [.int (nI (1)), .int (nI (m))]) (w2 := modW 0 ((F.bd, F.st, F.pr, F.ow, kd, fg, F.rs, F.ca, F.ac) : SaleN) X K) rfl ?_
            refine ev_isub_n (by omega) dX7_winnersOf_47 ?_
            refine ev_b bX7_winnersOf_48_49 (lv' := [(3, .int (nI (m))), (4, .int (nI (m))), (0, .ref 0), (1, .int (nI (bits))), (2, .int (nI (bits &&& F.ac)))]) (st' := [.int (nI (bits &&& F.ac)), .int (nI (m - 1))]) (w2 := modW 0 ((F.bd, F.st, F.pr, F.ow, kd, fg, F.rs, F.ca, F.ac) : SaleN) X K) rfl ?_
            refine ev_iand_n dX7_winnersOf_49 ?_
            refine ev_b bX7_winnersOf_50_16 (lv' := [(4, .int (nI ((m - 1) &&& (bits &&& F.ac)))), (3, .int (nI (m))), (0, .ref 0), (1, .int (nI (bits))), (2, .int (nI (bits &&& F.ac)))]) (st' := []) (w2 := modW 0 ((F.bd, F.st, F.pr, F.ow, kd, fg, F.rs, F.ca, F.ac) : SaleN) X K) rfl ?_
            exact ih16 (k + 1) (by omega) _ _ ⟨hnext, sub_and _ _, by have := Nat.and_le_left (n := m - 1) (m := bits &&& F.ac); omega⟩
  refine ev_pick (lv' := [(4, .int (nI (bits &&& F.ac))), (3, .int (nI (0))), (0, .ref 0), (1, .int (nI (bits))), (2, .int (nI (bits &&& F.ac)))]) rfl ?_
  exact L16 1024 0 (by omega) (bits &&& F.ac) 0 ⟨best_start, sub_and2 _, by have := Nat.and_le_right (n := bits) (m := F.ac); omega⟩
